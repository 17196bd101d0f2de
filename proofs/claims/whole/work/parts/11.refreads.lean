set_option maxHeartbeats 4000000 in
set_option maxRecDepth 100000 in
theorem c_X6_in {l : Launch} {D : va_G} {cI cR : ClassId} (v : Int32) (x : Int32) (y : Int32) : RoB l D cI cR ([]) yX6_in wsX6_in ({ frames := 0, cells := 0, slots := 0, locals := 0 } : Room) [.int v, .int x, .int y] (p_in v x y) := by
  refine OfW (cc := cX6_in) (maxL := 3) (ret := (some .boolean)) (by decide +kernel) rfl (Nat.le_of_ble_eq_true rfl) (fun p e s m below meth c hx hb hr hts hown hlocks hml hnm hP hK hN ls hl => ?_)
  have hl : lv_has ls 3 [(0, .int v), (1, .int x), (2, .int y)] := hl
  refine lv_iload_n hx hb dX6_in_0 rfl (lv_at hl 0 rfl) ?_
  refine lv_iload_n hx hb dX6_in_1 rfl (lv_at hl 1 rfl) ?_
  refine lv_icmp_lt (tgt := 14) hx hb dX6_in_2 (by decide) (fun c_2 => ?_) (fun c_2 => ?_)
  · refine lv_iconst (v := 0) hx hb dX6_in_14 (by decide) ?_
    exact retB0 hx hb hr hlocks dX6_in_15 (by simp only [i3_lt] at c_2; intro z; have z1 := z.1; have z2 := z.2; omega)
  · refine lv_iload_n hx hb dX6_in_5 rfl (lv_at hl 0 rfl) ?_
    refine lv_iload_n hx hb dX6_in_6 rfl (lv_at hl 2 rfl) ?_
    refine lv_icmp_gt (tgt := 14) hx hb dX6_in_7 (by decide) (fun c_7 => ?_) (fun c_7 => ?_)
    · refine lv_iconst (v := 0) hx hb dX6_in_14 (by decide) ?_
      exact retB0 hx hb hr hlocks dX6_in_15 (by simp only [i3_lt] at c_2 c_7; intro z; have z1 := z.1; have z2 := z.2; omega)
    · refine lv_iconst (v := 1) hx hb dX6_in_10 (by decide) ?_
      refine lv_goto (tgt := 15) hx hb dX6_in_11 (by decide) ?_
      exact retB1 hx hb hr hlocks dX6_in_15 (by simp only [i3_lt] at c_2 c_7; exact ⟨by omega, by omega⟩)
set_option maxHeartbeats 4000000 in
set_option maxRecDepth 100000 in
theorem c_X6_of {l : Launch} {D : va_G} {cI cR : ClassId} (h : Int32) (f : Int32) : RoE l D cI cR ([]) yX6_of wsX6_of ({ frames := 0, cells := 0, slots := 0, locals := 0 } : Room) [.int h, .int f] (oH h f) := by
  refine OfW (cc := cX6_of) (maxL := 2) (ret := (some .int)) (by decide +kernel) rfl (Nat.le_of_ble_eq_true rfl) (fun p e s m below meth c hx hb hr hts hown hlocks hml hnm hP hK hN ls hl => ?_)
  have hl : lv_has ls 2 [(0, .int h), (1, .int f)] := hl
  refine lv_bipush (v := 6) hx hb dX6_of_0 (by decide) ?_
  refine lv_bipush (v := 9) hx hb dX6_of_2 (by decide) ?_
  refine lv_iload_n hx hb dX6_of_4 rfl (lv_at hl 0 rfl) ?_
  refine lv_imul hx hb dX6_of_5 ?_
  refine lv_iadd hx hb dX6_of_6 ?_
  refine lv_iload_n hx hb dX6_of_7 rfl (lv_at hl 1 rfl) ?_
  refine lv_iadd hx hb dX6_of_8 ?_
  exact retE hx hb hr hlocks dX6_of_9 rfl
set_option maxHeartbeats 4000000 in
set_option maxRecDepth 100000 in
theorem c_X6_ofCommitment {l : Launch} {D : va_G} {cI cR : ClassId} (h : Int32) (f : Int32) : RoE l D cI cR ([]) yX6_ofCommitment wsX6_ofCommitment ({ frames := 0, cells := 0, slots := 0, locals := 0 } : Room) [.int h, .int f] (oC h f) := by
  refine OfW (cc := cX6_ofCommitment) (maxL := 2) (ret := (some .int)) (by decide +kernel) rfl (Nat.le_of_ble_eq_true rfl) (fun p e s m below meth c hx hb hr hts hown hlocks hml hnm hP hK hN ls hl => ?_)
  have hl : lv_has ls 2 [(0, .int h), (1, .int f)] := hl
  refine lv_sipush (v := 186) hx hb dX6_ofCommitment_0 (by decide) ?_
  refine lv_iconst (v := 4) hx hb dX6_ofCommitment_3 (by decide) ?_
  refine lv_iload_n hx hb dX6_ofCommitment_4 rfl (lv_at hl 0 rfl) ?_
  refine lv_imul hx hb dX6_ofCommitment_5 ?_
  refine lv_iadd hx hb dX6_ofCommitment_6 ?_
  refine lv_iload_n hx hb dX6_ofCommitment_7 rfl (lv_at hl 1 rfl) ?_
  refine lv_iadd hx hb dX6_ofCommitment_8 ?_
  exact retE hx hb hr hlocks dX6_ofCommitment_9 rfl
set_option maxHeartbeats 4000000 in
set_option maxRecDepth 100000 in
theorem c_X6_isAmount {l : Launch} {D : va_G} {cI cR : ClassId} (a : Int32) : RoB l D cI cR ([]) yX6_isAmount wsX6_isAmount ({ frames := 1, cells := 0, slots := 0, locals := 22 } : Room) [.int a] (p_amt a) := by
  refine OfW (cc := cX6_isAmount) (maxL := 1) (ret := (some .boolean)) (by decide +kernel) rfl (Nat.le_of_ble_eq_true rfl) (fun p e s m below meth c hx hb hr hts hown hlocks hml hnm hP hK hN ls hl => ?_)
  have hl : lv_has ls 1 [(0, .int a)] := hl
  refine lv_iload_n hx hb dX6_isAmount_0 rfl (lv_at hl 0 rfl) ?_
  refine lv_iconst (v := 1) hx hb dX6_isAmount_1 (by decide) ?_
  refine lv_ldc (v := 100000) hx hb hown (hts (.constant RX6 42 100000) (by decide +kernel)) dX6_isAmount_2 ?_
  refine callSB (As := [.int a, .int 1, .int 100000]) (rest := []) ⟨hx, hb, hml, hown, hts⟩ (c_X6_in a 1 100000) (va_cwS 3 hts gX6_isAmount_X6_in rfl rfl rfl (by decide +kernel) ⟨Nat.le_of_ble_eq_true rfl, Nat.le_of_ble_eq_true rfl⟩) hK hN rfl hl.1 rfl (Nat.le_of_ble_eq_true rfl) dX6_isAmount_4 ⟨Nat.zero_le _, Nat.zero_le _⟩ (fun c_4 => ?_) (fun c_4 => ?_)
  · exact retB1 hx hb hr hlocks dX6_isAmount_7 (amt_iff.mp c_4)
  · exact retB0 hx hb hr hlocks dX6_isAmount_7 (fun z => c_4 (amt_iff.mpr z))
set_option maxHeartbeats 4000000 in
set_option maxRecDepth 100000 in
theorem c_X6_isHead {l : Launch} {D : va_G} {cI cR : ClassId} {am : Nat → Nat} (Y : St) {K : Int} (hok : Ok K (Y 0)) (h : Int32) : RoB l D cI cR (wM cI am Y) yX6_isHead wsX6_isHead ({ frames := 1, cells := 0, slots := 0, locals := 22 } : Room) [.ref (am 0), .int h] (p_has (Y 0) h) := by
  refine OfW (cc := cX6_isHead) (maxL := 2) (ret := (some .boolean)) (by decide +kernel) rfl (Nat.le_of_ble_eq_true rfl) (fun p e s m below meth c hx hb hr hts hown hlocks hml hnm hP hK hN ls hl => ?_)
  have hl : lv_has ls 2 [(0, .ref (am 0)), (1, .int h)] := hl
  have lk_7 := hts (.fieldLink RX6 7 "HeadBudgetsModel" "row" "[I") (by decide +kernel)
  have hi_X6 : ∀ w ∈ wsX60, w ∈ wsX6_isHead := by decide +kernel
  refine lv_iload_n hx hb dX6_isHead_0 rfl (lv_at hl 1 rfl) ?_
  refine lv_iconst (v := 0) hx hb dX6_isHead_1 (by decide) ?_
  refine lv_aload_n hx hb dX6_isHead_2 rfl (lv_at hl 0 rfl) ?_
  refine xget (C := RX6) (T := TX6) (N := 10) (ci := 6) (w := .ref (am 1)) hx hb hts hi_X6 hown hK hP 0 rfl rfl 0 (by decide) lk_7 rfl dX6_isHead_3 ?_
  refine lv_iconst (v := 1) hx hb dX6_isHead_6 (by decide) ?_
  refine xald (x := Y 0 14 1) hx hb hK hP 1 rfl (vp_in_lit (by decide)) (row_n _ (o := 1) (by decide)) dX6_isHead_7 ?_
  refine lv_iconst (v := 1) hx hb dX6_isHead_8 (by decide) ?_
  refine lv_isub hx hb dX6_isHead_9 ?_
  refine callSB (As := [.int h, .int 0, .int ((Y 0 14 1) - 1)]) (rest := []) ⟨hx, hb, hml, hown, hts⟩ (c_X6_in h 0 ((Y 0 14 1) - 1)) (va_cwS 3 hts gX6_isHead_X6_in rfl rfl rfl (by decide +kernel) ⟨Nat.le_of_ble_eq_true rfl, Nat.le_of_ble_eq_true rfl⟩) hK hN rfl hl.1 rfl (Nat.le_of_ble_eq_true rfl) dX6_isHead_10 ⟨Nat.zero_le _, Nat.zero_le _⟩ (fun c_10 => ?_) (fun c_10 => ?_)
  · exact retB1 hx hb hr hlocks dX6_isHead_13 ((isHead_iff hok).mp c_10)
  · exact retB0 hx hb hr hlocks dX6_isHead_13 (fun z => c_10 ((isHead_iff hok).mpr z))
set_option maxHeartbeats 4000000 in
set_option maxRecDepth 100000 in
theorem c_X6_isCommitment {l : Launch} {D : va_G} {cI cR : ClassId} {am : Nat → Nat} (Y : St) {K : Int} (hok : Ok K (Y 0)) (h : Int32) : RoB l D cI cR (wM cI am Y) yX6_isCommitment wsX6_isCommitment ({ frames := 1, cells := 0, slots := 0, locals := 22 } : Room) [.ref (am 0), .int h] (p_hasC (Y 0) h) := by
  refine OfW (cc := cX6_isCommitment) (maxL := 2) (ret := (some .boolean)) (by decide +kernel) rfl (Nat.le_of_ble_eq_true rfl) (fun p e s m below meth c hx hb hr hts hown hlocks hml hnm hP hK hN ls hl => ?_)
  have hl : lv_has ls 2 [(0, .ref (am 0)), (1, .int h)] := hl
  have lk_7 := hts (.fieldLink RX6 7 "HeadBudgetsModel" "row" "[I") (by decide +kernel)
  have hi_X6 : ∀ w ∈ wsX60, w ∈ wsX6_isCommitment := by decide +kernel
  refine lv_iload_n hx hb dX6_isCommitment_0 rfl (lv_at hl 1 rfl) ?_
  refine lv_iconst (v := 0) hx hb dX6_isCommitment_1 (by decide) ?_
  refine lv_aload_n hx hb dX6_isCommitment_2 rfl (lv_at hl 0 rfl) ?_
  refine xget (C := RX6) (T := TX6) (N := 10) (ci := 6) (w := .ref (am 1)) hx hb hts hi_X6 hown hK hP 0 rfl rfl 0 (by decide) lk_7 rfl dX6_isCommitment_3 ?_
  refine lv_iconst (v := 2) hx hb dX6_isCommitment_6 (by decide) ?_
  refine xald (x := Y 0 14 2) hx hb hK hP 1 rfl (vp_in_lit (by decide)) (row_n _ (o := 2) (by decide)) dX6_isCommitment_7 ?_
  refine lv_iconst (v := 1) hx hb dX6_isCommitment_8 (by decide) ?_
  refine lv_isub hx hb dX6_isCommitment_9 ?_
  refine callSB (As := [.int h, .int 0, .int ((Y 0 14 2) - 1)]) (rest := []) ⟨hx, hb, hml, hown, hts⟩ (c_X6_in h 0 ((Y 0 14 2) - 1)) (va_cwS 3 hts gX6_isCommitment_X6_in rfl rfl rfl (by decide +kernel) ⟨Nat.le_of_ble_eq_true rfl, Nat.le_of_ble_eq_true rfl⟩) hK hN rfl hl.1 rfl (Nat.le_of_ble_eq_true rfl) dX6_isCommitment_10 ⟨Nat.zero_le _, Nat.zero_le _⟩ (fun c_10 => ?_) (fun c_10 => ?_)
  · exact retB1 hx hb hr hlocks dX6_isCommitment_13 ((isComm_iff hok).mp c_10)
  · exact retB0 hx hb hr hlocks dX6_isCommitment_13 (fun z => c_10 ((isComm_iff hok).mpr z))
set_option maxHeartbeats 4000000 in
set_option maxRecDepth 100000 in
theorem c_X6_aboveOf {l : Launch} {D : va_G} {cI cR : ClassId} {am : Nat → Nat} (Y : St) (h : Int32) (hh : hin h) : RoE l D cI cR (wM cI am Y) yX6_aboveOf wsX6_aboveOf ({ frames := 1, cells := 0, slots := 0, locals := 21 } : Room) [.ref (am 0), .int h] (qv (Y 0) 0 h) := by
  refine OfW (cc := cX6_aboveOf) (maxL := 2) (ret := (some .int)) (by decide +kernel) rfl (Nat.le_of_ble_eq_true rfl) (fun p e s m below meth c hx hb hr hts hown hlocks hml hnm hP hK hN ls hl => ?_)
  have hl : lv_has ls 2 [(0, .ref (am 0)), (1, .int h)] := hl
  have lk_7 := hts (.fieldLink RX6 7 "HeadBudgetsModel" "row" "[I") (by decide +kernel)
  have hi_X6 : ∀ w ∈ wsX60, w ∈ wsX6_aboveOf := by decide +kernel
  refine lv_aload_n hx hb dX6_aboveOf_0 rfl (lv_at hl 0 rfl) ?_
  refine xget (C := RX6) (T := TX6) (N := 10) (ci := 6) (w := .ref (am 1)) hx hb hts hi_X6 hown hK hP 0 rfl rfl 0 (by decide) lk_7 rfl dX6_aboveOf_1 ?_
  refine lv_iload_n hx hb dX6_aboveOf_4 rfl (lv_at hl 1 rfl) ?_
  refine lv_iconst (v := 0) hx hb dX6_aboveOf_5 (by decide) ?_
  refine callSE (As := [.int h, .int 0]) (rest := [.ref (am 1)]) ⟨hx, hb, hml, hown, hts⟩ (c_X6_of h 0) (va_cwS 2 hts gX6_aboveOf_X6_of rfl rfl rfl (by decide +kernel) ⟨Nat.le_of_ble_eq_true rfl, Nat.le_of_ble_eq_true rfl⟩) hK hN rfl hl.1 rfl (Nat.le_of_ble_eq_true rfl) dX6_aboveOf_6 ⟨Nat.zero_le _, Nat.zero_le _⟩ ?_
  refine xald (x := qv (Y 0) 0 h) hx hb hK hP 1 rfl (oH_in (n := 0) (by assumption) (by decide)) (row_oH (n := 0) (by assumption) (by decide)) dX6_aboveOf_9 ?_
  exact retE hx hb hr hlocks dX6_aboveOf_10 rfl
set_option maxHeartbeats 4000000 in
set_option maxRecDepth 100000 in
theorem c_X6_free {l : Launch} {D : va_G} {cI cR : ClassId} {am : Nat → Nat} (Y : St) (h : Int32) (hh : hin h) : RoE l D cI cR (wM cI am Y) yX6_free wsX6_free ({ frames := 1, cells := 0, slots := 0, locals := 21 } : Room) [.ref (am 0), .int h] (fr (Y 0) h) := by
  refine OfW (cc := cX6_free) (maxL := 2) (ret := (some .int)) (by decide +kernel) rfl (Nat.le_of_ble_eq_true rfl) (fun p e s m below meth c hx hb hr hts hown hlocks hml hnm hP hK hN ls hl => ?_)
  have hl : lv_has ls 2 [(0, .ref (am 0)), (1, .int h)] := hl
  have lk_7 := hts (.fieldLink RX6 7 "HeadBudgetsModel" "row" "[I") (by decide +kernel)
  have hi_X6 : ∀ w ∈ wsX60, w ∈ wsX6_free := by decide +kernel
  refine lv_aload_n hx hb dX6_free_0 rfl (lv_at hl 0 rfl) ?_
  refine xget (C := RX6) (T := TX6) (N := 10) (ci := 6) (w := .ref (am 1)) hx hb hts hi_X6 hown hK hP 0 rfl rfl 0 (by decide) lk_7 rfl dX6_free_1 ?_
  refine lv_iload_n hx hb dX6_free_4 rfl (lv_at hl 1 rfl) ?_
  refine lv_iconst (v := 3) hx hb dX6_free_5 (by decide) ?_
  refine callSE (As := [.int h, .int 3]) (rest := [.ref (am 1)]) ⟨hx, hb, hml, hown, hts⟩ (c_X6_of h 3) (va_cwS 2 hts gX6_free_X6_of rfl rfl rfl (by decide +kernel) ⟨Nat.le_of_ble_eq_true rfl, Nat.le_of_ble_eq_true rfl⟩) hK hN rfl hl.1 rfl (Nat.le_of_ble_eq_true rfl) dX6_free_6 ⟨Nat.zero_le _, Nat.zero_le _⟩ ?_
  refine xald (x := qv (Y 0) 3 h) hx hb hK hP 1 rfl (oH_in (n := 3) (by assumption) (by decide)) (row_oH (n := 3) (by assumption) (by decide)) dX6_free_9 ?_
  refine lv_aload_n hx hb dX6_free_10 rfl (lv_at hl 0 rfl) ?_
  refine xget (C := RX6) (T := TX6) (N := 10) (ci := 6) (w := .ref (am 1)) hx hb hts hi_X6 hown hK hP 0 rfl rfl 0 (by decide) lk_7 rfl dX6_free_11 ?_
  refine lv_iload_n hx hb dX6_free_14 rfl (lv_at hl 1 rfl) ?_
  refine lv_iconst (v := 4) hx hb dX6_free_15 (by decide) ?_
  refine callSE (As := [.int h, .int 4]) (rest := [.ref (am 1), .int (qv (Y 0) 3 h)]) ⟨hx, hb, hml, hown, hts⟩ (c_X6_of h 4) (va_cwS 2 hts gX6_free_X6_of rfl rfl rfl (by decide +kernel) ⟨Nat.le_of_ble_eq_true rfl, Nat.le_of_ble_eq_true rfl⟩) hK hN rfl hl.1 rfl (Nat.le_of_ble_eq_true rfl) dX6_free_16 ⟨Nat.zero_le _, Nat.zero_le _⟩ ?_
  refine xald (x := qv (Y 0) 4 h) hx hb hK hP 1 rfl (oH_in (n := 4) (by assumption) (by decide)) (row_oH (n := 4) (by assumption) (by decide)) dX6_free_19 ?_
  refine lv_isub hx hb dX6_free_20 ?_
  refine lv_aload_n hx hb dX6_free_21 rfl (lv_at hl 0 rfl) ?_
  refine xget (C := RX6) (T := TX6) (N := 10) (ci := 6) (w := .ref (am 1)) hx hb hts hi_X6 hown hK hP 0 rfl rfl 0 (by decide) lk_7 rfl dX6_free_22 ?_
  refine lv_iload_n hx hb dX6_free_25 rfl (lv_at hl 1 rfl) ?_
  refine lv_iconst (v := 5) hx hb dX6_free_26 (by decide) ?_
  refine callSE (As := [.int h, .int 5]) (rest := [.ref (am 1), .int ((qv (Y 0) 3 h) - (qv (Y 0) 4 h))]) ⟨hx, hb, hml, hown, hts⟩ (c_X6_of h 5) (va_cwS 2 hts gX6_free_X6_of rfl rfl rfl (by decide +kernel) ⟨Nat.le_of_ble_eq_true rfl, Nat.le_of_ble_eq_true rfl⟩) hK hN rfl hl.1 rfl (Nat.le_of_ble_eq_true rfl) dX6_free_27 ⟨Nat.zero_le _, Nat.zero_le _⟩ ?_
  refine xald (x := qv (Y 0) 5 h) hx hb hK hP 1 rfl (oH_in (n := 5) (by assumption) (by decide)) (row_oH (n := 5) (by assumption) (by decide)) dX6_free_30 ?_
  refine lv_isub hx hb dX6_free_31 ?_
  exact retE hx hb hr hlocks dX6_free_32 rfl
set_option maxHeartbeats 4000000 in
set_option maxRecDepth 100000 in
theorem c_X6_leaveOf {l : Launch} {D : va_G} {cI cR : ClassId} {am : Nat → Nat} (Y : St) (h : Int32) (hh : hin h) : RoE l D cI cR (wM cI am Y) yX6_leaveOf wsX6_leaveOf ({ frames := 1, cells := 0, slots := 0, locals := 21 } : Room) [.ref (am 0), .int h] (p_lv (Y 0) h) := by
  refine OfW (cc := cX6_leaveOf) (maxL := 2) (ret := (some .int)) (by decide +kernel) rfl (Nat.le_of_ble_eq_true rfl) (fun p e s m below meth c hx hb hr hts hown hlocks hml hnm hP hK hN ls hl => ?_)
  have hl : lv_has ls 2 [(0, .ref (am 0)), (1, .int h)] := hl
  have lk_7 := hts (.fieldLink RX6 7 "HeadBudgetsModel" "row" "[I") (by decide +kernel)
  have hi_X6 : ∀ w ∈ wsX60, w ∈ wsX6_leaveOf := by decide +kernel
  refine lv_aload_n hx hb dX6_leaveOf_0 rfl (lv_at hl 0 rfl) ?_
  refine xget (C := RX6) (T := TX6) (N := 10) (ci := 6) (w := .ref (am 1)) hx hb hts hi_X6 hown hK hP 0 rfl rfl 0 (by decide) lk_7 rfl dX6_leaveOf_1 ?_
  refine lv_iload_n hx hb dX6_leaveOf_4 rfl (lv_at hl 1 rfl) ?_
  refine lv_bipush (v := 8) hx hb dX6_leaveOf_5 (by decide) ?_
  refine callSE (As := [.int h, .int 8]) (rest := [.ref (am 1)]) ⟨hx, hb, hml, hown, hts⟩ (c_X6_of h 8) (va_cwS 2 hts gX6_leaveOf_X6_of rfl rfl rfl (by decide +kernel) ⟨Nat.le_of_ble_eq_true rfl, Nat.le_of_ble_eq_true rfl⟩) hK hN rfl hl.1 rfl (Nat.le_of_ble_eq_true rfl) dX6_leaveOf_7 ⟨Nat.zero_le _, Nat.zero_le _⟩ ?_
  refine xald (x := qv (Y 0) 8 h) hx hb hK hP 1 rfl (oH_in (n := 8) (by assumption) (by decide)) (row_oH (n := 8) (by assumption) (by decide)) dX6_leaveOf_10 ?_
  refine lv_i2l (v := (qv (Y 0) 8 h).toInt64) hx hb dX6_leaveOf_11 rfl ?_
  refine lv_aload_n hx hb dX6_leaveOf_12 rfl (lv_at hl 0 rfl) ?_
  refine xget (C := RX6) (T := TX6) (N := 10) (ci := 6) (w := .ref (am 1)) hx hb hts hi_X6 hown hK hP 0 rfl rfl 0 (by decide) lk_7 rfl dX6_leaveOf_13 ?_
  refine lv_iload_n hx hb dX6_leaveOf_16 rfl (lv_at hl 1 rfl) ?_
  refine lv_bipush (v := 6) hx hb dX6_leaveOf_17 (by decide) ?_
  refine callSE (As := [.int h, .int 6]) (rest := [.ref (am 1), .long ((qv (Y 0) 8 h).toInt64)]) ⟨hx, hb, hml, hown, hts⟩ (c_X6_of h 6) (va_cwS 2 hts gX6_leaveOf_X6_of rfl rfl rfl (by decide +kernel) ⟨Nat.le_of_ble_eq_true rfl, Nat.le_of_ble_eq_true rfl⟩) hK hN rfl hl.1 rfl (Nat.le_of_ble_eq_true rfl) dX6_leaveOf_19 ⟨Nat.zero_le _, Nat.zero_le _⟩ ?_
  refine xald (x := qv (Y 0) 6 h) hx hb hK hP 1 rfl (oH_in (n := 6) (by assumption) (by decide)) (row_oH (n := 6) (by assumption) (by decide)) dX6_leaveOf_22 ?_
  refine lv_i2l (v := (qv (Y 0) 6 h).toInt64) hx hb dX6_leaveOf_23 rfl ?_
  refine lv_lmul hx hb dX6_leaveOf_24 ?_
  refine lv_ldc2 (v := 100) hx hb hown (hts (.constantLong RX6 99 100) (by decide +kernel)) dX6_leaveOf_25 ?_
  refine lv_ldiv hx hb dX6_leaveOf_28 (by decide) ?_
  refine lv_l2i (v := ((((qv (Y 0) 8 h).toInt64) * ((qv (Y 0) 6 h).toInt64)) / 100).toInt32) hx hb dX6_leaveOf_29 rfl ?_
  refine lv_aload_n hx hb dX6_leaveOf_30 rfl (lv_at hl 0 rfl) ?_
  refine xget (C := RX6) (T := TX6) (N := 10) (ci := 6) (w := .ref (am 1)) hx hb hts hi_X6 hown hK hP 0 rfl rfl 0 (by decide) lk_7 rfl dX6_leaveOf_31 ?_
  refine lv_iload_n hx hb dX6_leaveOf_34 rfl (lv_at hl 1 rfl) ?_
  refine lv_bipush (v := 7) hx hb dX6_leaveOf_35 (by decide) ?_
  refine callSE (As := [.int h, .int 7]) (rest := [.ref (am 1), .int (((((qv (Y 0) 8 h).toInt64) * ((qv (Y 0) 6 h).toInt64)) / 100).toInt32)]) ⟨hx, hb, hml, hown, hts⟩ (c_X6_of h 7) (va_cwS 2 hts gX6_leaveOf_X6_of rfl rfl rfl (by decide +kernel) ⟨Nat.le_of_ble_eq_true rfl, Nat.le_of_ble_eq_true rfl⟩) hK hN rfl hl.1 rfl (Nat.le_of_ble_eq_true rfl) dX6_leaveOf_37 ⟨Nat.zero_le _, Nat.zero_le _⟩ ?_
  refine xald (x := qv (Y 0) 7 h) hx hb hK hP 1 rfl (oH_in (n := 7) (by assumption) (by decide)) (row_oH (n := 7) (by assumption) (by decide)) dX6_leaveOf_40 ?_
  refine lv_isub hx hb dX6_leaveOf_41 ?_
  exact retE hx hb hr hlocks dX6_leaveOf_42 lv_ref.symm
set_option maxHeartbeats 4000000 in
set_option maxRecDepth 100000 in
theorem c_X6_lapseOf {l : Launch} {D : va_G} {cI cR : ClassId} {am : Nat → Nat} (Y : St) (h : Int32) (hh : hin h) : RoE l D cI cR (wM cI am Y) yX6_lapseOf wsX6_lapseOf ({ frames := 2, cells := 0, slots := 0, locals := 42 } : Room) [.ref (am 0), .int h] (lp (Y 0) h) := by
  refine OfW (cc := cX6_lapseOf) (maxL := 2) (ret := (some .int)) (by decide +kernel) rfl (Nat.le_of_ble_eq_true rfl) (fun p e s m below meth c hx hb hr hts hown hlocks hml hnm hP hK hN ls hl => ?_)
  have hl : lv_has ls 2 [(0, .ref (am 0)), (1, .int h)] := hl
  have lk_7 := hts (.fieldLink RX6 7 "HeadBudgetsModel" "row" "[I") (by decide +kernel)
  have hi_X6 : ∀ w ∈ wsX60, w ∈ wsX6_lapseOf := by decide +kernel
  refine lv_aload_n hx hb dX6_lapseOf_0 rfl (lv_at hl 0 rfl) ?_
  refine lv_iload_n hx hb dX6_lapseOf_1 rfl (lv_at hl 1 rfl) ?_
  refine callE (As := [.int h]) (rest := []) ⟨hx, hb, hml, hown, hts⟩ (c_X6_free Y h (by assumption)) (cwV 1 hts gX6_lapseOf_X6_free rfl rfl rfl (by decide +kernel) ⟨Nat.le_of_ble_eq_true rfl, Nat.le_of_ble_eq_true rfl⟩) hK hN hP 0 rfl rfl rfl hl.1 rfl (Nat.le_of_ble_eq_true rfl) dX6_lapseOf_2 ⟨Nat.zero_le _, Nat.zero_le _⟩ ?_
  refine lv_aload_n hx hb dX6_lapseOf_5 rfl (lv_at hl 0 rfl) ?_
  refine lv_iload_n hx hb dX6_lapseOf_6 rfl (lv_at hl 1 rfl) ?_
  refine callE (As := [.int h]) (rest := [.int (fr (Y 0) h)]) ⟨hx, hb, hml, hown, hts⟩ (c_X6_free Y h (by assumption)) (cwV 1 hts gX6_lapseOf_X6_free rfl rfl rfl (by decide +kernel) ⟨Nat.le_of_ble_eq_true rfl, Nat.le_of_ble_eq_true rfl⟩) hK hN hP 0 rfl rfl rfl hl.1 rfl (Nat.le_of_ble_eq_true rfl) dX6_lapseOf_7 ⟨Nat.zero_le _, Nat.zero_le _⟩ ?_
  refine lv_i2l (v := (fr (Y 0) h).toInt64) hx hb dX6_lapseOf_10 rfl ?_
  refine lv_aload_n hx hb dX6_lapseOf_11 rfl (lv_at hl 0 rfl) ?_
  refine xget (C := RX6) (T := TX6) (N := 10) (ci := 6) (w := .ref (am 1)) hx hb hts hi_X6 hown hK hP 0 rfl rfl 0 (by decide) lk_7 rfl dX6_lapseOf_12 ?_
  refine lv_iconst (v := 3) hx hb dX6_lapseOf_15 (by decide) ?_
  refine xald (x := Y 0 14 3) hx hb hK hP 1 rfl (vp_in_lit (by decide)) (row_n _ (o := 3) (by decide)) dX6_lapseOf_16 ?_
  refine lv_i2l (v := (Y 0 14 3).toInt64) hx hb dX6_lapseOf_17 rfl ?_
  refine lv_lmul hx hb dX6_lapseOf_18 ?_
  refine lv_ldc2 (v := 100) hx hb hown (hts (.constantLong RX6 99 100) (by decide +kernel)) dX6_lapseOf_19 ?_
  refine lv_ldiv hx hb dX6_lapseOf_22 (by decide) ?_
  refine lv_l2i (v := ((((fr (Y 0) h).toInt64) * ((Y 0 14 3).toInt64)) / 100).toInt32) hx hb dX6_lapseOf_23 rfl ?_
  refine lv_isub hx hb dX6_lapseOf_24 ?_
  exact retE hx hb hr hlocks dX6_lapseOf_25 rfl
set_option maxHeartbeats 4000000 in
set_option maxRecDepth 100000 in
theorem c_X6_areTwo {l : Launch} {D : va_G} {cI cR : ClassId} {am : Nat → Nat} (Y : St) {K : Int} (hok : Ok K (Y 0)) (f : Int32) (t : Int32) : RoB l D cI cR (wM cI am Y) yX6_areTwo wsX6_areTwo ({ frames := 2, cells := 0, slots := 0, locals := 43 } : Room) [.ref (am 0), .int f, .int t] (p_has (Y 0) f ∧ p_has (Y 0) t ∧ f ≠ t) := by
  refine OfW (cc := cX6_areTwo) (maxL := 3) (ret := (some .boolean)) (by decide +kernel) rfl (Nat.le_of_ble_eq_true rfl) (fun p e s m below meth c hx hb hr hts hown hlocks hml hnm hP hK hN ls hl => ?_)
  have hl : lv_has ls 3 [(0, .ref (am 0)), (1, .int f), (2, .int t)] := hl
  refine lv_aload_n hx hb dX6_areTwo_0 rfl (lv_at hl 0 rfl) ?_
  refine lv_iload_n hx hb dX6_areTwo_1 rfl (lv_at hl 1 rfl) ?_
  refine callB (As := [.int f]) (rest := []) ⟨hx, hb, hml, hown, hts⟩ (c_X6_isHead Y hok f) (cwV 1 hts gX6_areTwo_X6_isHead rfl rfl rfl (by decide +kernel) ⟨Nat.le_of_ble_eq_true rfl, Nat.le_of_ble_eq_true rfl⟩) hK hN hP 0 rfl rfl rfl hl.1 rfl (Nat.le_of_ble_eq_true rfl) dX6_areTwo_2 ⟨Nat.zero_le _, Nat.zero_le _⟩ (fun c_2 => ?_) (fun c_2 => ?_)
  · refine lv_if_eq (tgt := 25) hx hb dX6_areTwo_5 (by decide) (fun h9 => absurd h9 (by decide)) (fun _ => ?_)
    refine lv_aload_n hx hb dX6_areTwo_8 rfl (lv_at hl 0 rfl) ?_
    refine lv_iload_n hx hb dX6_areTwo_9 rfl (lv_at hl 2 rfl) ?_
    refine callB (As := [.int t]) (rest := []) ⟨hx, hb, hml, hown, hts⟩ (c_X6_isHead Y hok t) (cwV 1 hts gX6_areTwo_X6_isHead rfl rfl rfl (by decide +kernel) ⟨Nat.le_of_ble_eq_true rfl, Nat.le_of_ble_eq_true rfl⟩) hK hN hP 0 rfl rfl rfl hl.1 rfl (Nat.le_of_ble_eq_true rfl) dX6_areTwo_10 ⟨Nat.zero_le _, Nat.zero_le _⟩ (fun c_10 => ?_) (fun c_10 => ?_)
    · refine lv_if_eq (tgt := 25) hx hb dX6_areTwo_13 (by decide) (fun h9 => absurd h9 (by decide)) (fun _ => ?_)
      refine lv_iload_n hx hb dX6_areTwo_16 rfl (lv_at hl 1 rfl) ?_
      refine lv_iload_n hx hb dX6_areTwo_17 rfl (lv_at hl 2 rfl) ?_
      refine lv_icmp_eq (tgt := 25) hx hb dX6_areTwo_18 (by decide) (fun c_18 => ?_) (fun c_18 => ?_)
      · refine lv_iconst (v := 0) hx hb dX6_areTwo_25 (by decide) ?_
        exact retB0 hx hb hr hlocks dX6_areTwo_26 (by first | exact fun z => c_2 z.1 | exact fun z => c_10 z.2.1 | exact fun z => z.2.2 c_18)
      · refine lv_iconst (v := 1) hx hb dX6_areTwo_21 (by decide) ?_
        refine lv_goto (tgt := 26) hx hb dX6_areTwo_22 (by decide) ?_
        exact retB1 hx hb hr hlocks dX6_areTwo_26 ⟨c_2, c_10, c_18⟩
    · refine lv_if_eq (tgt := 25) hx hb dX6_areTwo_13 (by decide) (fun _ => ?_) (fun h9 => absurd (by decide) h9)
      refine lv_iconst (v := 0) hx hb dX6_areTwo_25 (by decide) ?_
      exact retB0 hx hb hr hlocks dX6_areTwo_26 (by first | exact fun z => c_2 z.1 | exact fun z => c_10 z.2.1 | exact fun z => z.2.2 c_18)
  · refine lv_if_eq (tgt := 25) hx hb dX6_areTwo_5 (by decide) (fun _ => ?_) (fun h9 => absurd (by decide) h9)
    refine lv_iconst (v := 0) hx hb dX6_areTwo_25 (by decide) ?_
    exact retB0 hx hb hr hlocks dX6_areTwo_26 (by first | exact fun z => c_2 z.1 | exact fun z => c_10 z.2.1 | exact fun z => z.2.2 c_18)
set_option maxHeartbeats 4000000 in
set_option maxRecDepth 100000 in
theorem c_X6_depth {l : Launch} {D : va_G} {cI cR : ClassId} {am : Nat → Nat} (Y : St) {K : Int} (hok : Ok K (Y 0)) (h : Int32) (hp : p_has (Y 0) h) : RoE l D cI cR (wM cI am Y) yX6_depth wsX6_depth ({ frames := 2, cells := 0, slots := 0, locals := 42 } : Room) [.ref (am 0), .int h] (qv (Y 0) 9 h) := by
  refine OfW (cc := cX6_depth) (maxL := 4) (ret := (some .int)) (by decide +kernel) rfl (Nat.le_of_ble_eq_true rfl) (fun p e s m below meth c hx hb hr hts hown hlocks hml hnm hP hK hN ls hl => ?_)
  have hl : lv_has ls 4 [(0, .ref (am 0)), (1, .int h)] := hl
  have hh := hin_has hp
  refine lv_iconst (v := 0) hx hb dX6_depth_0 (by decide) ?_
  refine lv_istore_n (lv' := [(2, .int 0), (0, .ref (am 0)), (1, .int h)]) hx hb dX6_depth_1 rfl hl (by decide) rfl (fun ls hl => ?_)
  refine lv_aload_n hx hb dX6_depth_2 rfl (lv_at hl 1 rfl) ?_
  refine lv_iload_n hx hb dX6_depth_3 rfl (lv_at hl 2 rfl) ?_
  refine callE (As := [.int h]) (rest := []) ⟨hx, hb, hml, hown, hts⟩ (c_X6_aboveOf Y h (by assumption)) (cwV 1 hts gX6_depth_X6_aboveOf rfl rfl rfl (by decide +kernel) ⟨Nat.le_of_ble_eq_true rfl, Nat.le_of_ble_eq_true rfl⟩) hK hN hP 0 rfl rfl rfl hl.1 rfl (Nat.le_of_ble_eq_true rfl) dX6_depth_4 ⟨Nat.zero_le _, Nat.zero_le _⟩ ?_
  refine lv_istore_n (lv' := [(3, .int (qv (Y 0) 0 h)), (2, .int 0), (0, .ref (am 0)), (1, .int h)]) hx hb dX6_depth_7 rfl hl (by decide) rfl (fun ls hl => ?_)
  have hloop_8 : ∀ (n_8 : Nat) (x2 x3 : Int32), up_ok (Y 0) x3 n_8 → dp_I (Y 0) h x2 x3 → ∀ ls : Array Slot, lv_has ls 4 [(0, .ref (am 0)), (1, .int h), (2, .int x2), (3, .int x3)] → W p l e ({ frames := 2, cells := 0, slots := 0, locals := 42 } : Room) s m ([.ref (am 0), .int h]).toArray below meth c s.heap [] 0 0 (MQ below (vp_Si (fun r => r = qv (Y 0) 9 h)) ([.ref (am 0), .int h]).toArray s 0 0 (fun _ => False)) (F0 m 8 ls []) := by
    intro n_8
    induction n_8 with
    | zero =>
      intro x2 x3 hu hi ls hl
      exact absurd hu (up_0 hok)
    | succ n_8 ih_8 =>
      intro x2 x3 hu hi ls hl
      refine lv_iload_n hx hb dX6_depth_8 rfl (lv_at hl 3 rfl) ?_
      refine lv_bipush (v := (-9)) hx hb dX6_depth_9 (by decide) ?_
      refine lv_icmp_eq (tgt := 26) hx hb dX6_depth_11 (by decide) (fun c_11 => ?_) (fun c_11 => ?_)
      · refine lv_iload_n hx hb dX6_depth_26 rfl (lv_at hl 2 rfl) ?_
        exact retE hx hb hr hlocks dX6_depth_27 (dp_e hi c_11)
      · have hp3 := up_has hu c_11
        have hh3 := hin_has hp3
        refine lv_iinc (v := x2 + 1) (lv' := [(2, .int (x2 + 1)), (0, .ref (am 0)), (1, .int h), (3, .int x3)]) hx hb dX6_depth_14 hl (k := 2) rfl rfl (by decide) rfl (fun ls hl => ?_)
        refine lv_aload_n hx hb dX6_depth_17 rfl (lv_at hl 1 rfl) ?_
        refine lv_iload_n hx hb dX6_depth_18 rfl (lv_at hl 3 rfl) ?_
        refine callE (As := [.int x3]) (rest := []) ⟨hx, hb, hml, hown, hts⟩ (c_X6_aboveOf Y x3 (by assumption)) (cwV 1 hts gX6_depth_X6_aboveOf rfl rfl rfl (by decide +kernel) ⟨Nat.le_of_ble_eq_true rfl, Nat.le_of_ble_eq_true rfl⟩) hK hN hP 0 rfl rfl rfl hl.1 rfl (Nat.le_of_ble_eq_true rfl) dX6_depth_19 ⟨Nat.zero_le _, Nat.zero_le _⟩ ?_
        refine lv_istore_n (lv' := [(3, .int (qv (Y 0) 0 x3)), (2, .int (x2 + 1)), (0, .ref (am 0)), (1, .int h)]) hx hb dX6_depth_22 rfl hl (by decide) rfl (fun ls hl => ?_)
        refine lv_goto (tgt := 8) hx hb dX6_depth_23 (by decide) ?_
        exact ih_8  _ _ (up_next hok hu c_11) (dp_s hok hp hi c_11) _ (lv_sub hl [2, 3, 1, 0] rfl)
  exact hloop_8  6 0 _ (up_start1 hok hp) (dp_0 hok hp) _ (lv_sub hl [2, 3, 1, 0] rfl)
set_option maxHeartbeats 4000000 in
set_option maxRecDepth 100000 in
theorem c_X6_isBelow {l : Launch} {D : va_G} {cI cR : ClassId} {am : Nat → Nat} (Y : St) {K : Int} (hok : Ok K (Y 0)) (h : Int32) (t : Int32) (hp : p_has (Y 0) h) (hq : p_has (Y 0) t) : RoB l D cI cR (wM cI am Y) yX6_isBelow wsX6_isBelow ({ frames := 2, cells := 0, slots := 0, locals := 42 } : Room) [.ref (am 0), .int h, .int t] (mb (Y 0) h t) := by
  refine OfW (cc := cX6_isBelow) (maxL := 4) (ret := (some .boolean)) (by decide +kernel) rfl (Nat.le_of_ble_eq_true rfl) (fun p e s m below meth c hx hb hr hts hown hlocks hml hnm hP hK hN ls hl => ?_)
  have hl : lv_has ls 4 [(0, .ref (am 0)), (1, .int h), (2, .int t)] := hl
  have hh := hin_has hp
  refine lv_aload_n hx hb dX6_isBelow_0 rfl (lv_at hl 0 rfl) ?_
  refine lv_iload_n hx hb dX6_isBelow_1 rfl (lv_at hl 1 rfl) ?_
  refine callE (As := [.int h]) (rest := []) ⟨hx, hb, hml, hown, hts⟩ (c_X6_aboveOf Y h (by assumption)) (cwV 1 hts gX6_isBelow_X6_aboveOf rfl rfl rfl (by decide +kernel) ⟨Nat.le_of_ble_eq_true rfl, Nat.le_of_ble_eq_true rfl⟩) hK hN hP 0 rfl rfl rfl hl.1 rfl (Nat.le_of_ble_eq_true rfl) dX6_isBelow_2 ⟨Nat.zero_le _, Nat.zero_le _⟩ ?_
  refine lv_istore_n (lv' := [(3, .int (qv (Y 0) 0 h)), (0, .ref (am 0)), (1, .int h), (2, .int t)]) hx hb dX6_isBelow_5 rfl hl (by decide) rfl (fun ls hl => ?_)
  have hloop_6 : ∀ (n_6 : Nat) (x3 : Int32), up_ok (Y 0) x3 n_6 → (p_wit (Y 0) 5 x3 t ↔ mb (Y 0) h t) → ∀ ls : Array Slot, lv_has ls 4 [(0, .ref (am 0)), (1, .int h), (2, .int t), (3, .int x3)] → W p l e ({ frames := 2, cells := 0, slots := 0, locals := 42 } : Room) s m ([.ref (am 0), .int h, .int t]).toArray below meth c s.heap [] 0 0 (MQ below (vp_Si (fun r => (r = 1 ∧ (mb (Y 0) h t)) ∨ (r = 0 ∧ ¬ (mb (Y 0) h t)))) ([.ref (am 0), .int h, .int t]).toArray s 0 0 (fun _ => False)) (F0 m 6 ls []) := by
    intro n_6
    induction n_6 with
    | zero =>
      intro x3 hu hi ls hl
      exact absurd hu (up_0 hok)
    | succ n_6 ih_6 =>
      intro x3 hu hi ls hl
      refine lv_iload_n hx hb dX6_isBelow_6 rfl (lv_at hl 3 rfl) ?_
      refine lv_bipush (v := (-9)) hx hb dX6_isBelow_7 (by decide) ?_
      refine lv_icmp_eq (tgt := 26) hx hb dX6_isBelow_9 (by decide) (fun c_9 => ?_) (fun c_9 => ?_)
      · refine lv_iload_n hx hb dX6_isBelow_26 rfl (lv_at hl 3 rfl) ?_
        refine lv_iload_n hx hb dX6_isBelow_27 rfl (lv_at hl 2 rfl) ?_
        refine lv_icmp_ne (tgt := 35) hx hb dX6_isBelow_28 (by decide) (fun c_28 => ?_) (fun c_28 => ?_)
        · refine lv_iconst (v := 0) hx hb dX6_isBelow_35 (by decide) ?_
          exact retB0 hx hb hr hlocks dX6_isBelow_36 (by rw [c_9] at hi; exact fun z => wit_no9 (hi.mpr z))
        · refine lv_iconst (v := 1) hx hb dX6_isBelow_31 (by decide) ?_
          refine lv_goto (tgt := 36) hx hb dX6_isBelow_32 (by decide) ?_
          exact retB1 hx hb hr hlocks dX6_isBelow_36 (hi.mp (by rw [c_28]; exact (wit_mb hok hq).mpr (Or.inl rfl)))
      · have hp3 := up_has hu c_9
        have hh3 := hin_has hp3
        refine lv_iload_n hx hb dX6_isBelow_12 rfl (lv_at hl 3 rfl) ?_
        refine lv_iload_n hx hb dX6_isBelow_13 rfl (lv_at hl 2 rfl) ?_
        refine lv_icmp_eq (tgt := 26) hx hb dX6_isBelow_14 (by decide) (fun c_14 => ?_) (fun c_14 => ?_)
        · refine lv_iload_n hx hb dX6_isBelow_26 rfl (lv_at hl 3 rfl) ?_
          refine lv_iload_n hx hb dX6_isBelow_27 rfl (lv_at hl 2 rfl) ?_
          refine lv_icmp_ne (tgt := 35) hx hb dX6_isBelow_28 (by decide) (fun c_28 => ?_) (fun c_28 => ?_)
          · refine lv_iconst (v := 0) hx hb dX6_isBelow_35 (by decide) ?_
            exact retB0 hx hb hr hlocks dX6_isBelow_36 (absurd c_14 c_28)
          · refine lv_iconst (v := 1) hx hb dX6_isBelow_31 (by decide) ?_
            refine lv_goto (tgt := 36) hx hb dX6_isBelow_32 (by decide) ?_
            exact retB1 hx hb hr hlocks dX6_isBelow_36 (hi.mp (by rw [c_28]; exact (wit_mb hok hq).mpr (Or.inl rfl)))
        · refine lv_aload_n hx hb dX6_isBelow_17 rfl (lv_at hl 0 rfl) ?_
          refine lv_iload_n hx hb dX6_isBelow_18 rfl (lv_at hl 3 rfl) ?_
          refine callE (As := [.int x3]) (rest := []) ⟨hx, hb, hml, hown, hts⟩ (c_X6_aboveOf Y x3 (by assumption)) (cwV 1 hts gX6_isBelow_X6_aboveOf rfl rfl rfl (by decide +kernel) ⟨Nat.le_of_ble_eq_true rfl, Nat.le_of_ble_eq_true rfl⟩) hK hN hP 0 rfl rfl rfl hl.1 rfl (Nat.le_of_ble_eq_true rfl) dX6_isBelow_19 ⟨Nat.zero_le _, Nat.zero_le _⟩ ?_
          refine lv_istore_n (lv' := [(3, .int (qv (Y 0) 0 x3)), (0, .ref (am 0)), (1, .int h), (2, .int t)]) hx hb dX6_isBelow_22 rfl hl (by decide) rfl (fun ls hl => ?_)
          refine lv_goto (tgt := 6) hx hb dX6_isBelow_23 (by decide) ?_
          exact ih_6  _ (up_next hok hu c_9) ((wit_step hok hp3 c_14).symm.trans hi) _ (lv_sub hl [1, 2, 3, 0] rfl)
  exact hloop_6  6 _ (up_start1 hok hp) Iff.rfl _ (lv_sub hl [1, 2, 3, 0] rfl)
set_option maxHeartbeats 4000000 in
set_option maxRecDepth 100000 in
theorem c_X6_isBarred {l : Launch} {D : va_G} {cI cR : ClassId} {am : Nat → Nat} (Y : St) {K : Int} (hok : Ok K (Y 0)) (h : Int32) (hp : p_has (Y 0) h) : RoB l D cI cR (wM cI am Y) yX6_isBarred wsX6_isBarred ({ frames := 2, cells := 0, slots := 0, locals := 42 } : Room) [.ref (am 0), .int h] (p_bar (Y 0) 5 h) := by
  refine OfW (cc := cX6_isBarred) (maxL := 3) (ret := (some .boolean)) (by decide +kernel) rfl (Nat.le_of_ble_eq_true rfl) (fun p e s m below meth c hx hb hr hts hown hlocks hml hnm hP hK hN ls hl => ?_)
  have hl : lv_has ls 3 [(0, .ref (am 0)), (1, .int h)] := hl
  have lk_7 := hts (.fieldLink RX6 7 "HeadBudgetsModel" "row" "[I") (by decide +kernel)
  have hi_X6 : ∀ w ∈ wsX60, w ∈ wsX6_isBarred := by decide +kernel
  refine lv_iload_n hx hb dX6_isBarred_0 rfl (lv_at hl 1 rfl) ?_
  refine lv_istore_n (lv' := [(2, .int h), (0, .ref (am 0)), (1, .int h)]) hx hb dX6_isBarred_1 rfl hl (by decide) rfl (fun ls hl => ?_)
  have hloop_2 : ∀ (n_2 : Nat) (x2 : Int32), up_ok (Y 0) x2 n_2 → (p_bar (Y 0) 5 x2 ↔ p_bar (Y 0) 5 h) → ∀ ls : Array Slot, lv_has ls 3 [(0, .ref (am 0)), (1, .int h), (2, .int x2)] → W p l e ({ frames := 2, cells := 0, slots := 0, locals := 42 } : Room) s m ([.ref (am 0), .int h]).toArray below meth c s.heap [] 0 0 (MQ below (vp_Si (fun r => (r = 1 ∧ (p_bar (Y 0) 5 h)) ∨ (r = 0 ∧ ¬ (p_bar (Y 0) 5 h)))) ([.ref (am 0), .int h]).toArray s 0 0 (fun _ => False)) (F0 m 2 ls []) := by
    intro n_2
    induction n_2 with
    | zero =>
      intro x2 hu hi ls hl
      exact absurd hu (up_0 hok)
    | succ n_2 ih_2 =>
      intro x2 hu hi ls hl
      refine lv_iload_n hx hb dX6_isBarred_2 rfl (lv_at hl 2 rfl) ?_
      refine lv_bipush (v := (-9)) hx hb dX6_isBarred_3 (by decide) ?_
      refine lv_icmp_eq (tgt := 30) hx hb dX6_isBarred_5 (by decide) (fun c_5 => ?_) (fun c_5 => ?_)
      · refine lv_iload_n hx hb dX6_isBarred_30 rfl (lv_at hl 2 rfl) ?_
        refine lv_bipush (v := (-9)) hx hb dX6_isBarred_31 (by decide) ?_
        refine lv_icmp_eq (tgt := 40) hx hb dX6_isBarred_33 (by decide) (fun c_33 => ?_) (fun c_33 => ?_)
        · refine lv_iconst (v := 0) hx hb dX6_isBarred_40 (by decide) ?_
          exact retB0 hx hb hr hlocks dX6_isBarred_41 (by rw [c_5] at hi; exact fun z => bar_no9 (hi.mpr z))
        · refine lv_iconst (v := 1) hx hb dX6_isBarred_36 (by decide) ?_
          refine lv_goto (tgt := 41) hx hb dX6_isBarred_37 (by decide) ?_
          exact retB1 hx hb hr hlocks dX6_isBarred_41 (absurd c_5 c_33)
      · have hp3 := up_has hu c_5
        have hh3 := hin_has hp3
        refine lv_aload_n hx hb dX6_isBarred_8 rfl (lv_at hl 0 rfl) ?_
        refine xget (C := RX6) (T := TX6) (N := 10) (ci := 6) (w := .ref (am 1)) hx hb hts hi_X6 hown hK hP 0 rfl rfl 0 (by decide) lk_7 rfl dX6_isBarred_9 ?_
        refine lv_iload_n hx hb dX6_isBarred_12 rfl (lv_at hl 2 rfl) ?_
        refine lv_iconst (v := 2) hx hb dX6_isBarred_13 (by decide) ?_
        refine callSE (As := [.int x2, .int 2]) (rest := [.ref (am 1)]) ⟨hx, hb, hml, hown, hts⟩ (c_X6_of x2 2) (va_cwS 2 hts gX6_isBarred_X6_of rfl rfl rfl (by decide +kernel) ⟨Nat.le_of_ble_eq_true rfl, Nat.le_of_ble_eq_true rfl⟩) hK hN rfl hl.1 rfl (Nat.le_of_ble_eq_true rfl) dX6_isBarred_14 ⟨Nat.zero_le _, Nat.zero_le _⟩ ?_
        refine xald (x := qv (Y 0) 2 x2) hx hb hK hP 1 rfl (oH_in (n := 2) (by assumption) (by decide)) (row_oH (n := 2) (by assumption) (by decide)) dX6_isBarred_17 ?_
        refine lv_if_ne (tgt := 30) hx hb dX6_isBarred_18 (by decide) (fun c_18 => ?_) (fun c_18 => ?_)
        · refine lv_iload_n hx hb dX6_isBarred_30 rfl (lv_at hl 2 rfl) ?_
          refine lv_bipush (v := (-9)) hx hb dX6_isBarred_31 (by decide) ?_
          refine lv_icmp_eq (tgt := 40) hx hb dX6_isBarred_33 (by decide) (fun c_33 => ?_) (fun c_33 => ?_)
          · refine lv_iconst (v := 0) hx hb dX6_isBarred_40 (by decide) ?_
            exact retB0 hx hb hr hlocks dX6_isBarred_41 (absurd c_33 c_5)
          · refine lv_iconst (v := 1) hx hb dX6_isBarred_36 (by decide) ?_
            refine lv_goto (tgt := 41) hx hb dX6_isBarred_37 (by decide) ?_
            exact retB1 hx hb hr hlocks dX6_isBarred_41 (hi.mp (bar_top hok hp3 c_18))
        · refine lv_aload_n hx hb dX6_isBarred_21 rfl (lv_at hl 0 rfl) ?_
          refine lv_iload_n hx hb dX6_isBarred_22 rfl (lv_at hl 2 rfl) ?_
          refine callE (As := [.int x2]) (rest := []) ⟨hx, hb, hml, hown, hts⟩ (c_X6_aboveOf Y x2 (by assumption)) (cwV 1 hts gX6_isBarred_X6_aboveOf rfl rfl rfl (by decide +kernel) ⟨Nat.le_of_ble_eq_true rfl, Nat.le_of_ble_eq_true rfl⟩) hK hN hP 0 rfl rfl rfl hl.1 rfl (Nat.le_of_ble_eq_true rfl) dX6_isBarred_23 ⟨Nat.zero_le _, Nat.zero_le _⟩ ?_
          refine lv_istore_n (lv' := [(2, .int (qv (Y 0) 0 x2)), (0, .ref (am 0)), (1, .int h)]) hx hb dX6_isBarred_26 rfl hl (by decide) rfl (fun ls hl => ?_)
          refine lv_goto (tgt := 2) hx hb dX6_isBarred_27 (by decide) ?_
          exact ih_2  _ (up_next hok hu c_5) ((bar_step hok hp3 c_18).symm.trans hi) _ (lv_sub hl [1, 2, 0] rfl)
  exact hloop_2  6 _ (up_start hok hp) Iff.rfl _ (lv_sub hl [1, 2, 0] rfl)
set_option maxHeartbeats 4000000 in
set_option maxRecDepth 100000 in
theorem c_X6_barred {l : Launch} {D : va_G} {cI cR : ClassId} {am : Nat → Nat} (Y : St) {K : Int} (hok : Ok K (Y 0)) : RoE l D cI cR (wM cI am Y) yX6_barred wsX6_barred ({ frames := 3, cells := 0, slots := 0, locals := 64 } : Room) [.ref (am 0)] (p_cntb (Y 0) 20) := by
  refine OfW (cc := cX6_barred) (maxL := 3) (ret := (some .int)) (by decide +kernel) rfl (Nat.le_of_ble_eq_true rfl) (fun p e s m below meth c hx hb hr hts hown hlocks hml hnm hP hK hN ls hl => ?_)
  have hl : lv_has ls 3 [(0, .ref (am 0))] := hl
  have lk_7 := hts (.fieldLink RX6 7 "HeadBudgetsModel" "row" "[I") (by decide +kernel)
  have hi_X6 : ∀ w ∈ wsX60, w ∈ wsX6_barred := by decide +kernel
  refine lv_iconst (v := 0) hx hb dX6_barred_0 (by decide) ?_
  refine lv_istore_n (lv' := [(1, .int 0), (0, .ref (am 0))]) hx hb dX6_barred_1 rfl hl (by decide) rfl (fun ls hl => ?_)
  refine lv_iconst (v := 0) hx hb dX6_barred_2 (by decide) ?_
  refine lv_istore_n (lv' := [(2, .int 0), (1, .int 0), (0, .ref (am 0))]) hx hb dX6_barred_3 rfl hl (by decide) rfl (fun ls hl => ?_)
  have hloop_4 : ∀ (n_4 : Nat) (k : Nat) (xa xk : Int32), k ≤ md (Y 0) → md (Y 0) < k + n_4 → xk = nI k → xa = p_cntb (Y 0) k → ∀ ls : Array Slot, lv_has ls 3 [(0, .ref (am 0)), (1, .int xa), (2, .int xk)] → W p l e ({ frames := 3, cells := 0, slots := 0, locals := 64 } : Room) s m ([.ref (am 0)]).toArray below meth c s.heap [] 0 0 (MQ below (vp_Si (fun r => r = p_cntb (Y 0) 20)) ([.ref (am 0)]).toArray s 0 0 (fun _ => False)) (F0 m 4 ls []) := by
    intro n_4
    induction n_4 with
    | zero =>
      intro k xa xk hk hn ek ea ls hl
      exfalso; omega
    | succ n_4 ih_4 =>
      intro k xa xk hk hn ek ea ls hl
      refine lv_iload_n hx hb dX6_barred_4 rfl (lv_at hl 2 rfl) ?_
      refine lv_aload_n hx hb dX6_barred_5 rfl (lv_at hl 0 rfl) ?_
      refine xget (C := RX6) (T := TX6) (N := 10) (ci := 6) (w := .ref (am 1)) hx hb hts hi_X6 hown hK hP 0 rfl rfl 0 (by decide) lk_7 rfl dX6_barred_6 ?_
      refine lv_iconst (v := 1) hx hb dX6_barred_9 (by decide) ?_
      refine xald (x := Y 0 14 1) hx hb hK hP 1 rfl (vp_in_lit (by decide)) (row_n _ (o := 1) (by decide)) dX6_barred_10 ?_
      refine lv_icmp_ge (tgt := 36) hx hb dX6_barred_11 (by decide) (fun c_11 => ?_) (fun c_11 => ?_)
      · have hk2 : k = md (Y 0) := md_ge hok hk (by rw [← ek]; exact c_11)
        subst hk2
        refine lv_iload_n hx hb dX6_barred_36 rfl (lv_at hl 1 rfl) ?_
        exact retE hx hb hr hlocks dX6_barred_37 (by rw [ea]; exact (cntb_md hok).symm)
      · have hlt := md_lt hok hk (by rw [← ek]; exact c_11)
        have hpk : p_has (Y 0) xk := by rw [ek]; exact has_nI hok hlt.1
        have hhk := hin_has hpk
        refine lv_iload_n hx hb dX6_barred_14 rfl (lv_at hl 1 rfl) ?_
        refine lv_aload_n hx hb dX6_barred_15 rfl (lv_at hl 0 rfl) ?_
        refine lv_iload_n hx hb dX6_barred_16 rfl (lv_at hl 2 rfl) ?_
        refine callB (As := [.int xk]) (rest := [.int xa]) ⟨hx, hb, hml, hown, hts⟩ (c_X6_isBarred Y hok xk (by assumption)) (cwV 1 hts gX6_barred_X6_isBarred rfl rfl rfl (by decide +kernel) ⟨Nat.le_of_ble_eq_true rfl, Nat.le_of_ble_eq_true rfl⟩) hK hN hP 0 rfl rfl rfl hl.1 rfl (Nat.le_of_ble_eq_true rfl) dX6_barred_17 ⟨Nat.zero_le _, Nat.zero_le _⟩ (fun c_17 => ?_) (fun c_17 => ?_)
        · refine lv_if_eq (tgt := 27) hx hb dX6_barred_20 (by decide) (fun h9 => absurd h9 (by decide)) (fun _ => ?_)
          refine lv_iconst (v := 1) hx hb dX6_barred_23 (by decide) ?_
          refine lv_goto (tgt := 28) hx hb dX6_barred_24 (by decide) ?_
          refine lv_iadd hx hb dX6_barred_28 ?_
          refine lv_istore_n (lv' := [(1, .int (xa + 1)), (0, .ref (am 0)), (2, .int xk)]) hx hb dX6_barred_29 rfl hl (by decide) rfl (fun ls hl => ?_)
          refine lv_iinc (v := xk + 1) (lv' := [(2, .int (xk + 1)), (1, .int (xa + 1)), (0, .ref (am 0))]) hx hb dX6_barred_30 hl (k := 2) rfl rfl (by decide) rfl (fun ls hl => ?_)
          refine lv_goto (tgt := 4) hx hb dX6_barred_33 (by decide) ?_
          exact ih_4  (k + 1) _ _ (by omega) (by omega) (by rw [ek]; exact nI_1 k) (by rw [ea]; first | exact (sumI_ci (by rw [← ek]; exact c_17) rfl).symm | (rw [Int32.add_zero]; exact (sumI_c0 (by rw [← ek]; exact c_17) rfl).symm)) _ (lv_sub hl [2, 1, 0] rfl)
        · refine lv_if_eq (tgt := 27) hx hb dX6_barred_20 (by decide) (fun _ => ?_) (fun h9 => absurd (by decide) h9)
          refine lv_iconst (v := 0) hx hb dX6_barred_27 (by decide) ?_
          refine lv_iadd hx hb dX6_barred_28 ?_
          refine lv_istore_n (lv' := [(1, .int (xa + 0)), (0, .ref (am 0)), (2, .int xk)]) hx hb dX6_barred_29 rfl hl (by decide) rfl (fun ls hl => ?_)
          refine lv_iinc (v := xk + 1) (lv' := [(2, .int (xk + 1)), (1, .int (xa + 0)), (0, .ref (am 0))]) hx hb dX6_barred_30 hl (k := 2) rfl rfl (by decide) rfl (fun ls hl => ?_)
          refine lv_goto (tgt := 4) hx hb dX6_barred_33 (by decide) ?_
          exact ih_4  (k + 1) _ _ (by omega) (by omega) (by rw [ek]; exact nI_1 k) (by rw [ea]; first | exact (sumI_ci (by rw [← ek]; exact c_17) rfl).symm | (rw [Int32.add_zero]; exact (sumI_c0 (by rw [← ek]; exact c_17) rfl).symm)) _ (lv_sub hl [2, 1, 0] rfl)
  exact hloop_4  (md (Y 0) + 1) 0 0 0 (by omega) (by omega) rfl rfl _ (lv_sub hl [2, 1, 0] rfl)
set_option maxHeartbeats 4000000 in
set_option maxRecDepth 100000 in
theorem c_X6_sumOf {l : Launch} {D : va_G} {cI cR : ClassId} {am : Nat → Nat} (Y : St) {K : Int} (hok : Ok K (Y 0)) (wh : Int32) (hw : wh = 3) : RoE l D cI cR (wM cI am Y) yX6_sumOf wsX6_sumOf ({ frames := 1, cells := 0, slots := 0, locals := 21 } : Room) [.ref (am 0), .int wh] (p_sum (Y 0) 0 0 20) := by
  refine OfW (cc := cX6_sumOf) (maxL := 4) (ret := (some .int)) (by decide +kernel) rfl (Nat.le_of_ble_eq_true rfl) (fun p e s m below meth c hx hb hr hts hown hlocks hml hnm hP hK hN ls hl => ?_)
  have hl : lv_has ls 4 [(0, .ref (am 0)), (1, .int wh)] := hl
  have lk_7 := hts (.fieldLink RX6 7 "HeadBudgetsModel" "row" "[I") (by decide +kernel)
  have hi_X6 : ∀ w ∈ wsX60, w ∈ wsX6_sumOf := by decide +kernel
  refine lv_iconst (v := 0) hx hb dX6_sumOf_0 (by decide) ?_
  refine lv_istore_n (lv' := [(2, .int 0), (0, .ref (am 0)), (1, .int wh)]) hx hb dX6_sumOf_1 rfl hl (by decide) rfl (fun ls hl => ?_)
  refine lv_iconst (v := 0) hx hb dX6_sumOf_2 (by decide) ?_
  refine lv_istore_n (lv' := [(3, .int 0), (2, .int 0), (0, .ref (am 0)), (1, .int wh)]) hx hb dX6_sumOf_3 rfl hl (by decide) rfl (fun ls hl => ?_)
  have hloop_4 : ∀ (n_4 : Nat) (k : Nat) (xa xk : Int32), k ≤ md (Y 0) → md (Y 0) < k + n_4 → xk = nI k → xa = sumI (fun k => qv (Y 0) 3 (nI k)) k → ∀ ls : Array Slot, lv_has ls 4 [(0, .ref (am 0)), (1, .int wh), (2, .int xa), (3, .int xk)] → W p l e ({ frames := 1, cells := 0, slots := 0, locals := 21 } : Room) s m ([.ref (am 0), .int wh]).toArray below meth c s.heap [] 0 0 (MQ below (vp_Si (fun r => r = p_sum (Y 0) 0 0 20)) ([.ref (am 0), .int wh]).toArray s 0 0 (fun _ => False)) (F0 m 4 ls []) := by
    intro n_4
    induction n_4 with
    | zero =>
      intro k xa xk hk hn ek ea ls hl
      exfalso; omega
    | succ n_4 ih_4 =>
      intro k xa xk hk hn ek ea ls hl
      refine lv_iload_n hx hb dX6_sumOf_4 rfl (lv_at hl 3 rfl) ?_
      refine lv_aload_n hx hb dX6_sumOf_5 rfl (lv_at hl 0 rfl) ?_
      refine xget (C := RX6) (T := TX6) (N := 10) (ci := 6) (w := .ref (am 1)) hx hb hts hi_X6 hown hK hP 0 rfl rfl 0 (by decide) lk_7 rfl dX6_sumOf_6 ?_
      refine lv_iconst (v := 1) hx hb dX6_sumOf_9 (by decide) ?_
      refine xald (x := Y 0 14 1) hx hb hK hP 1 rfl (vp_in_lit (by decide)) (row_n _ (o := 1) (by decide)) dX6_sumOf_10 ?_
      refine lv_icmp_ge (tgt := 33) hx hb dX6_sumOf_11 (by decide) (fun c_11 => ?_) (fun c_11 => ?_)
      · have hk2 : k = md (Y 0) := md_ge hok hk (by rw [← ek]; exact c_11)
        subst hk2
        refine lv_iload_n hx hb dX6_sumOf_33 rfl (lv_at hl 2 rfl) ?_
        exact retE hx hb hr hlocks dX6_sumOf_34 (by rw [ea]; exact sum_all hok)
      · have hlt := md_lt hok hk (by rw [← ek]; exact c_11)
        have hpk : p_has (Y 0) xk := by rw [ek]; exact has_nI hok hlt.1
        have hhk := hin_has hpk
        refine lv_iload_n hx hb dX6_sumOf_14 rfl (lv_at hl 2 rfl) ?_
        refine lv_aload_n hx hb dX6_sumOf_15 rfl (lv_at hl 0 rfl) ?_
        refine xget (C := RX6) (T := TX6) (N := 10) (ci := 6) (w := .ref (am 1)) hx hb hts hi_X6 hown hK hP 0 rfl rfl 0 (by decide) lk_7 rfl dX6_sumOf_16 ?_
        refine lv_iload_n hx hb dX6_sumOf_19 rfl (lv_at hl 3 rfl) ?_
        refine lv_iload_n hx hb dX6_sumOf_20 rfl (lv_at hl 1 rfl) ?_
        refine callSE (As := [.int xk, .int wh]) (rest := [.ref (am 1), .int xa]) ⟨hx, hb, hml, hown, hts⟩ (c_X6_of xk wh) (va_cwS 2 hts gX6_sumOf_X6_of rfl rfl rfl (by decide +kernel) ⟨Nat.le_of_ble_eq_true rfl, Nat.le_of_ble_eq_true rfl⟩) hK hN rfl hl.1 rfl (Nat.le_of_ble_eq_true rfl) dX6_sumOf_21 ⟨Nat.zero_le _, Nat.zero_le _⟩ ?_
        refine xald (x := qv (Y 0) 3 xk) hx hb hK hP 1 rfl (oH_in (n := 3) hhk (by rw [hw]; exact ⟨rfl, by omega⟩)) (row_oH hhk (by rw [hw]; exact ⟨rfl, by omega⟩)) dX6_sumOf_24 ?_
        refine lv_iadd hx hb dX6_sumOf_25 ?_
        refine lv_istore_n (lv' := [(2, .int (xa + (qv (Y 0) 3 xk))), (0, .ref (am 0)), (1, .int wh), (3, .int xk)]) hx hb dX6_sumOf_26 rfl hl (by decide) rfl (fun ls hl => ?_)
        refine lv_iinc (v := xk + 1) (lv' := [(3, .int (xk + 1)), (2, .int (xa + (qv (Y 0) 3 xk))), (0, .ref (am 0)), (1, .int wh)]) hx hb dX6_sumOf_27 hl (k := 3) rfl rfl (by decide) rfl (fun ls hl => ?_)
        refine lv_goto (tgt := 4) hx hb dX6_sumOf_30 (by decide) ?_
        exact ih_4  (k + 1) _ _ (by omega) (by omega) (by rw [ek]; exact nI_1 k) (by rw [ea, ek]; rfl) _ (lv_sub hl [2, 3, 1, 0] rfl)
  exact hloop_4  (md (Y 0) + 1) 0 0 0 (by omega) (by omega) rfl rfl _ (lv_sub hl [2, 3, 1, 0] rfl)
set_option maxHeartbeats 4000000 in
set_option maxRecDepth 100000 in
theorem c_X6_opens {l : Launch} {D : va_G} {cI cR : ClassId} {am : Nat → Nat} (Y : St) {K : Int} (hok : Ok K (Y 0)) : RoE l D cI cR (wM cI am Y) yX6_opens wsX6_opens ({ frames := 1, cells := 0, slots := 0, locals := 21 } : Room) [.ref (am 0)] (p_open (Y 0) 40) := by
  refine OfW (cc := cX6_opens) (maxL := 3) (ret := (some .int)) (by decide +kernel) rfl (Nat.le_of_ble_eq_true rfl) (fun p e s m below meth c hx hb hr hts hown hlocks hml hnm hP hK hN ls hl => ?_)
  have hl : lv_has ls 3 [(0, .ref (am 0))] := hl
  have lk_7 := hts (.fieldLink RX6 7 "HeadBudgetsModel" "row" "[I") (by decide +kernel)
  have hi_X6 : ∀ w ∈ wsX60, w ∈ wsX6_opens := by decide +kernel
  refine lv_iconst (v := 0) hx hb dX6_opens_0 (by decide) ?_
  refine lv_istore_n (lv' := [(1, .int 0), (0, .ref (am 0))]) hx hb dX6_opens_1 rfl hl (by decide) rfl (fun ls hl => ?_)
  refine lv_iconst (v := 0) hx hb dX6_opens_2 (by decide) ?_
  refine lv_istore_n (lv' := [(2, .int 0), (1, .int 0), (0, .ref (am 0))]) hx hb dX6_opens_3 rfl hl (by decide) rfl (fun ls hl => ?_)
  have hloop_4 : ∀ (n_4 : Nat) (k : Nat) (xa xk : Int32), k ≤ mc (Y 0) → mc (Y 0) < k + n_4 → xk = nI k → xa = p_open (Y 0) k → ∀ ls : Array Slot, lv_has ls 3 [(0, .ref (am 0)), (1, .int xa), (2, .int xk)] → W p l e ({ frames := 1, cells := 0, slots := 0, locals := 21 } : Room) s m ([.ref (am 0)]).toArray below meth c s.heap [] 0 0 (MQ below (vp_Si (fun r => r = p_open (Y 0) 40)) ([.ref (am 0)]).toArray s 0 0 (fun _ => False)) (F0 m 4 ls []) := by
    intro n_4
    induction n_4 with
    | zero =>
      intro k xa xk hk hn ek ea ls hl
      exfalso; omega
    | succ n_4 ih_4 =>
      intro k xa xk hk hn ek ea ls hl
      refine lv_iload_n hx hb dX6_opens_4 rfl (lv_at hl 2 rfl) ?_
      refine lv_aload_n hx hb dX6_opens_5 rfl (lv_at hl 0 rfl) ?_
      refine xget (C := RX6) (T := TX6) (N := 10) (ci := 6) (w := .ref (am 1)) hx hb hts hi_X6 hown hK hP 0 rfl rfl 0 (by decide) lk_7 rfl dX6_opens_6 ?_
      refine lv_iconst (v := 2) hx hb dX6_opens_9 (by decide) ?_
      refine xald (x := Y 0 14 2) hx hb hK hP 1 rfl (vp_in_lit (by decide)) (row_n _ (o := 2) (by decide)) dX6_opens_10 ?_
      refine lv_icmp_ge (tgt := 41) hx hb dX6_opens_11 (by decide) (fun c_11 => ?_) (fun c_11 => ?_)
      · have hk2 : k = mc (Y 0) := mc_ge hok hk (by rw [← ek]; exact c_11)
        subst hk2
        refine lv_iload_n hx hb dX6_opens_41 rfl (lv_at hl 1 rfl) ?_
        exact retE hx hb hr hlocks dX6_opens_42 (by rw [ea]; exact (open_mc hok).symm)
      · have hlt := mc_lt hok hk (by rw [← ek]; exact c_11)
        have hhk : cin xk := by rw [ek]; exact nI_cin hlt.2
        refine lv_iload_n hx hb dX6_opens_14 rfl (lv_at hl 1 rfl) ?_
        refine lv_aload_n hx hb dX6_opens_15 rfl (lv_at hl 0 rfl) ?_
        refine xget (C := RX6) (T := TX6) (N := 10) (ci := 6) (w := .ref (am 1)) hx hb hts hi_X6 hown hK hP 0 rfl rfl 0 (by decide) lk_7 rfl dX6_opens_16 ?_
        refine lv_iload_n hx hb dX6_opens_19 rfl (lv_at hl 2 rfl) ?_
        refine lv_iconst (v := 1) hx hb dX6_opens_20 (by decide) ?_
        refine callSE (As := [.int xk, .int 1]) (rest := [.ref (am 1), .int xa]) ⟨hx, hb, hml, hown, hts⟩ (c_X6_ofCommitment xk 1) (va_cwS 2 hts gX6_opens_X6_ofCommitment rfl rfl rfl (by decide +kernel) ⟨Nat.le_of_ble_eq_true rfl, Nat.le_of_ble_eq_true rfl⟩) hK hN rfl hl.1 rfl (Nat.le_of_ble_eq_true rfl) dX6_opens_21 ⟨Nat.zero_le _, Nat.zero_le _⟩ ?_
        refine xald (x := qv (Y 0) 11 xk) hx hb hK hP 1 rfl (oC_in (n := 1) (by assumption) (by decide)) (row_oC (n := 1) (by assumption) (by decide)) dX6_opens_24 ?_
        refine lv_if_le (tgt := 32) hx hb dX6_opens_25 (by decide) (fun c_25 => ?_) (fun c_25 => ?_)
        · refine lv_iconst (v := 0) hx hb dX6_opens_32 (by decide) ?_
          refine lv_iadd hx hb dX6_opens_33 ?_
          refine lv_istore_n (lv' := [(1, .int (xa + 0)), (0, .ref (am 0)), (2, .int xk)]) hx hb dX6_opens_34 rfl hl (by decide) rfl (fun ls hl => ?_)
          refine lv_iinc (v := xk + 1) (lv' := [(2, .int (xk + 1)), (1, .int (xa + 0)), (0, .ref (am 0))]) hx hb dX6_opens_35 hl (k := 2) rfl rfl (by decide) rfl (fun ls hl => ?_)
          refine lv_goto (tgt := 4) hx hb dX6_opens_38 (by decide) ?_
          exact ih_4  (k + 1) _ _ (by omega) (by omega) (by rw [ek]; exact nI_1 k) (by rw [ea]; first | exact (sumI_ci (by rw [ek, qv, nI_c (by omega)] at c_25; exact Int32.not_le.mp c_25) rfl).symm | (rw [Int32.add_zero]; exact (sumI_c0 (by rw [ek, qv, nI_c (by omega)] at c_25; exact Int32.not_lt.mpr c_25) rfl).symm)) _ (lv_sub hl [2, 1, 0] rfl)
        · refine lv_iconst (v := 1) hx hb dX6_opens_28 (by decide) ?_
          refine lv_goto (tgt := 33) hx hb dX6_opens_29 (by decide) ?_
          refine lv_iadd hx hb dX6_opens_33 ?_
          refine lv_istore_n (lv' := [(1, .int (xa + 1)), (0, .ref (am 0)), (2, .int xk)]) hx hb dX6_opens_34 rfl hl (by decide) rfl (fun ls hl => ?_)
          refine lv_iinc (v := xk + 1) (lv' := [(2, .int (xk + 1)), (1, .int (xa + 1)), (0, .ref (am 0))]) hx hb dX6_opens_35 hl (k := 2) rfl rfl (by decide) rfl (fun ls hl => ?_)
          refine lv_goto (tgt := 4) hx hb dX6_opens_38 (by decide) ?_
          exact ih_4  (k + 1) _ _ (by omega) (by omega) (by rw [ek]; exact nI_1 k) (by rw [ea]; first | exact (sumI_ci (by rw [ek, qv, nI_c (by omega)] at c_25; exact Int32.not_le.mp c_25) rfl).symm | (rw [Int32.add_zero]; exact (sumI_c0 (by rw [ek, qv, nI_c (by omega)] at c_25; exact Int32.not_lt.mpr c_25) rfl).symm)) _ (lv_sub hl [2, 1, 0] rfl)
  exact hloop_4  (mc (Y 0) + 1) 0 0 0 (by omega) (by omega) rfl rfl _ (lv_sub hl [2, 1, 0] rfl)
set_option maxHeartbeats 4000000 in
set_option maxRecDepth 100000 in
theorem c_X6_valueOf {l : Launch} {D : va_G} {cI cR : ClassId} {am : Nat → Nat} (Y : St) (h : Int32) (wh : Int32) (hh : hin h) : RoE l D cI cR (wM cI am Y) yX6_valueOf wsX6_valueOf ({ frames := 3, cells := 0, slots := 0, locals := 63 } : Room) [.ref (am 0), .int h, .int wh] (p_val (Y 0) h wh) := by
  refine OfW (cc := cX6_valueOf) (maxL := 3) (ret := (some .int)) (by decide +kernel) rfl (Nat.le_of_ble_eq_true rfl) (fun p e s m below meth c hx hb hr hts hown hlocks hml hnm hP hK hN ls hl => ?_)
  have hl : lv_has ls 3 [(0, .ref (am 0)), (1, .int h), (2, .int wh)] := hl
  have lk_7 := hts (.fieldLink RX6 7 "HeadBudgetsModel" "row" "[I") (by decide +kernel)
  have hi_X6 : ∀ w ∈ wsX60, w ∈ wsX6_valueOf := by decide +kernel
  refine lv_iload_n hx hb dX6_valueOf_0 rfl (lv_at hl 2 rfl) ?_
  refine lv_if_ne (tgt := 17) hx hb dX6_valueOf_1 (by decide) (fun c_1 => ?_) (fun c_1 => ?_)
  · refine lv_iload_n hx hb dX6_valueOf_17 rfl (lv_at hl 2 rfl) ?_
    refine lv_iconst (v := 1) hx hb dX6_valueOf_18 (by decide) ?_
    refine lv_icmp_ne (tgt := 35) hx hb dX6_valueOf_19 (by decide) (fun c_19 => ?_) (fun c_19 => ?_)
    · refine lv_iload_n hx hb dX6_valueOf_35 rfl (lv_at hl 2 rfl) ?_
      refine lv_iconst (v := 2) hx hb dX6_valueOf_36 (by decide) ?_
      refine lv_icmp_ne (tgt := 53) hx hb dX6_valueOf_37 (by decide) (fun c_37 => ?_) (fun c_37 => ?_)
      · refine lv_iload_n hx hb dX6_valueOf_53 rfl (lv_at hl 2 rfl) ?_
        refine lv_iconst (v := 3) hx hb dX6_valueOf_54 (by decide) ?_
        refine lv_icmp_ne (tgt := 66) hx hb dX6_valueOf_55 (by decide) (fun c_55 => ?_) (fun c_55 => ?_)
        · refine lv_iload_n hx hb dX6_valueOf_66 rfl (lv_at hl 2 rfl) ?_
          refine lv_iconst (v := 4) hx hb dX6_valueOf_67 (by decide) ?_
          refine lv_icmp_ne (tgt := 75) hx hb dX6_valueOf_68 (by decide) (fun c_68 => ?_) (fun c_68 => ?_)
          · refine lv_aload_n hx hb dX6_valueOf_75 rfl (lv_at hl 0 rfl) ?_
            refine lv_iload_n hx hb dX6_valueOf_76 rfl (lv_at hl 1 rfl) ?_
            refine callE (As := [.int h]) (rest := []) ⟨hx, hb, hml, hown, hts⟩ (c_X6_lapseOf Y h (by assumption)) (cwV 1 hts gX6_valueOf_X6_lapseOf rfl rfl rfl (by decide +kernel) ⟨Nat.le_of_ble_eq_true rfl, Nat.le_of_ble_eq_true rfl⟩) hK hN hP 0 rfl rfl rfl hl.1 rfl (Nat.le_of_ble_eq_true rfl) dX6_valueOf_77 ⟨Nat.zero_le _, Nat.zero_le _⟩ ?_
            exact retE hx hb hr hlocks dX6_valueOf_80 (by first | rfl | (unfold p_val; repeat (first | rw [ci_t c_1] | rw [ci_f c_1] | rw [ci_t c_19] | rw [ci_f c_19] | rw [ci_t c_37] | rw [ci_f c_37] | rw [ci_t c_55] | rw [ci_f c_55] | rw [ci_t c_68] | rw [ci_f c_68])))
          · refine lv_iconst (v := 1) hx hb dX6_valueOf_71 (by decide) ?_
            refine lv_goto (tgt := 80) hx hb dX6_valueOf_72 (by decide) ?_
            exact retE hx hb hr hlocks dX6_valueOf_80 (by first | rfl | (unfold p_val; repeat (first | rw [ci_t c_1] | rw [ci_f c_1] | rw [ci_t c_19] | rw [ci_f c_19] | rw [ci_t c_37] | rw [ci_f c_37] | rw [ci_t c_55] | rw [ci_f c_55] | rw [ci_t c_68] | rw [ci_f c_68])))
        · refine lv_aload_n hx hb dX6_valueOf_58 rfl (lv_at hl 0 rfl) ?_
          refine lv_iload_n hx hb dX6_valueOf_59 rfl (lv_at hl 1 rfl) ?_
          refine callE (As := [.int h]) (rest := []) ⟨hx, hb, hml, hown, hts⟩ (c_X6_free Y h (by assumption)) (cwV 1 hts gX6_valueOf_X6_free rfl rfl rfl (by decide +kernel) ⟨Nat.le_of_ble_eq_true rfl, Nat.le_of_ble_eq_true rfl⟩) hK hN hP 0 rfl rfl rfl hl.1 rfl (Nat.le_of_ble_eq_true rfl) dX6_valueOf_60 ⟨Nat.zero_le _, Nat.zero_le _⟩ ?_
          refine lv_goto (tgt := 80) hx hb dX6_valueOf_63 (by decide) ?_
          exact retE hx hb hr hlocks dX6_valueOf_80 (by first | rfl | (unfold p_val; repeat (first | rw [ci_t c_1] | rw [ci_f c_1] | rw [ci_t c_19] | rw [ci_f c_19] | rw [ci_t c_37] | rw [ci_f c_37] | rw [ci_t c_55] | rw [ci_f c_55])))
      · refine lv_aload_n hx hb dX6_valueOf_40 rfl (lv_at hl 0 rfl) ?_
        refine xget (C := RX6) (T := TX6) (N := 10) (ci := 6) (w := .ref (am 1)) hx hb hts hi_X6 hown hK hP 0 rfl rfl 0 (by decide) lk_7 rfl dX6_valueOf_41 ?_
        refine lv_iload_n hx hb dX6_valueOf_44 rfl (lv_at hl 1 rfl) ?_
        refine lv_iconst (v := 5) hx hb dX6_valueOf_45 (by decide) ?_
        refine callSE (As := [.int h, .int 5]) (rest := [.ref (am 1)]) ⟨hx, hb, hml, hown, hts⟩ (c_X6_of h 5) (va_cwS 2 hts gX6_valueOf_X6_of rfl rfl rfl (by decide +kernel) ⟨Nat.le_of_ble_eq_true rfl, Nat.le_of_ble_eq_true rfl⟩) hK hN rfl hl.1 rfl (Nat.le_of_ble_eq_true rfl) dX6_valueOf_46 ⟨Nat.zero_le _, Nat.zero_le _⟩ ?_
        refine xald (x := qv (Y 0) 5 h) hx hb hK hP 1 rfl (oH_in (n := 5) (by assumption) (by decide)) (row_oH (n := 5) (by assumption) (by decide)) dX6_valueOf_49 ?_
        refine lv_goto (tgt := 80) hx hb dX6_valueOf_50 (by decide) ?_
        exact retE hx hb hr hlocks dX6_valueOf_80 (by first | rfl | (unfold p_val; repeat (first | rw [ci_t c_1] | rw [ci_f c_1] | rw [ci_t c_19] | rw [ci_f c_19] | rw [ci_t c_37] | rw [ci_f c_37])))
    · refine lv_aload_n hx hb dX6_valueOf_22 rfl (lv_at hl 0 rfl) ?_
      refine xget (C := RX6) (T := TX6) (N := 10) (ci := 6) (w := .ref (am 1)) hx hb hts hi_X6 hown hK hP 0 rfl rfl 0 (by decide) lk_7 rfl dX6_valueOf_23 ?_
      refine lv_iload_n hx hb dX6_valueOf_26 rfl (lv_at hl 1 rfl) ?_
      refine lv_iconst (v := 4) hx hb dX6_valueOf_27 (by decide) ?_
      refine callSE (As := [.int h, .int 4]) (rest := [.ref (am 1)]) ⟨hx, hb, hml, hown, hts⟩ (c_X6_of h 4) (va_cwS 2 hts gX6_valueOf_X6_of rfl rfl rfl (by decide +kernel) ⟨Nat.le_of_ble_eq_true rfl, Nat.le_of_ble_eq_true rfl⟩) hK hN rfl hl.1 rfl (Nat.le_of_ble_eq_true rfl) dX6_valueOf_28 ⟨Nat.zero_le _, Nat.zero_le _⟩ ?_
      refine xald (x := qv (Y 0) 4 h) hx hb hK hP 1 rfl (oH_in (n := 4) (by assumption) (by decide)) (row_oH (n := 4) (by assumption) (by decide)) dX6_valueOf_31 ?_
      refine lv_goto (tgt := 80) hx hb dX6_valueOf_32 (by decide) ?_
      exact retE hx hb hr hlocks dX6_valueOf_80 (by first | rfl | (unfold p_val; repeat (first | rw [ci_t c_1] | rw [ci_f c_1] | rw [ci_t c_19] | rw [ci_f c_19])))
  · refine lv_aload_n hx hb dX6_valueOf_4 rfl (lv_at hl 0 rfl) ?_
    refine xget (C := RX6) (T := TX6) (N := 10) (ci := 6) (w := .ref (am 1)) hx hb hts hi_X6 hown hK hP 0 rfl rfl 0 (by decide) lk_7 rfl dX6_valueOf_5 ?_
    refine lv_iload_n hx hb dX6_valueOf_8 rfl (lv_at hl 1 rfl) ?_
    refine lv_iconst (v := 3) hx hb dX6_valueOf_9 (by decide) ?_
    refine callSE (As := [.int h, .int 3]) (rest := [.ref (am 1)]) ⟨hx, hb, hml, hown, hts⟩ (c_X6_of h 3) (va_cwS 2 hts gX6_valueOf_X6_of rfl rfl rfl (by decide +kernel) ⟨Nat.le_of_ble_eq_true rfl, Nat.le_of_ble_eq_true rfl⟩) hK hN rfl hl.1 rfl (Nat.le_of_ble_eq_true rfl) dX6_valueOf_10 ⟨Nat.zero_le _, Nat.zero_le _⟩ ?_
    refine xald (x := qv (Y 0) 3 h) hx hb hK hP 1 rfl (oH_in (n := 3) (by assumption) (by decide)) (row_oH (n := 3) (by assumption) (by decide)) dX6_valueOf_13 ?_
    refine lv_goto (tgt := 80) hx hb dX6_valueOf_14 (by decide) ?_
    exact retE hx hb hr hlocks dX6_valueOf_80 (by first | rfl | (unfold p_val; repeat (first | rw [ci_t c_1] | rw [ci_f c_1])))
set_option maxHeartbeats 4000000 in
set_option maxRecDepth 100000 in
theorem c_X6_totalOf {l : Launch} {D : va_G} {cI cR : ClassId} {am : Nat → Nat} (Y : St) {K : Int} (hok : Ok K (Y 0)) (h : Int32) (wh : Int32) (hp : p_has (Y 0) h) : RoE l D cI cR (wM cI am Y) yX6_totalOf wsX6_totalOf ({ frames := 4, cells := 0, slots := 0, locals := 85 } : Room) [.ref (am 0), .int h, .int wh] (p_tot (Y 0) h wh (md (Y 0))) := by
  refine OfW (cc := cX6_totalOf) (maxL := 5) (ret := (some .int)) (by decide +kernel) rfl (Nat.le_of_ble_eq_true rfl) (fun p e s m below meth c hx hb hr hts hown hlocks hml hnm hP hK hN ls hl => ?_)
  have hl : lv_has ls 5 [(0, .ref (am 0)), (1, .int h), (2, .int wh)] := hl
  have lk_7 := hts (.fieldLink RX6 7 "HeadBudgetsModel" "row" "[I") (by decide +kernel)
  have hi_X6 : ∀ w ∈ wsX60, w ∈ wsX6_totalOf := by decide +kernel
  refine lv_iconst (v := 0) hx hb dX6_totalOf_0 (by decide) ?_
  refine lv_istore_n (lv' := [(3, .int 0), (0, .ref (am 0)), (1, .int h), (2, .int wh)]) hx hb dX6_totalOf_1 rfl hl (by decide) rfl (fun ls hl => ?_)
  refine lv_iconst (v := 0) hx hb dX6_totalOf_2 (by decide) ?_
  refine lv_istore (lv' := [(4, .int 0), (3, .int 0), (0, .ref (am 0)), (1, .int h), (2, .int wh)]) hx hb dX6_totalOf_3 hl (by decide) rfl (fun ls hl => ?_)
  have hloop_5 : ∀ (n_5 : Nat) (k : Nat) (xa xk : Int32), k ≤ md (Y 0) → md (Y 0) < k + n_5 → xk = nI k → xa = p_tot (Y 0) h wh k → ∀ ls : Array Slot, lv_has ls 5 [(0, .ref (am 0)), (1, .int h), (2, .int wh), (3, .int xa), (4, .int xk)] → W p l e ({ frames := 4, cells := 0, slots := 0, locals := 85 } : Room) s m ([.ref (am 0), .int h, .int wh]).toArray below meth c s.heap [] 0 0 (MQ below (vp_Si (fun r => r = p_tot (Y 0) h wh (md (Y 0)))) ([.ref (am 0), .int h, .int wh]).toArray s 0 0 (fun _ => False)) (F0 m 5 ls []) := by
    intro n_5
    induction n_5 with
    | zero =>
      intro k xa xk hk hn ek ea ls hl
      exfalso; omega
    | succ n_5 ih_5 =>
      intro k xa xk hk hn ek ea ls hl
      refine lv_iload hx hb dX6_totalOf_5 (lv_at hl 4 rfl) ?_
      refine lv_aload_n hx hb dX6_totalOf_7 rfl (lv_at hl 0 rfl) ?_
      refine xget (C := RX6) (T := TX6) (N := 10) (ci := 6) (w := .ref (am 1)) hx hb hts hi_X6 hown hK hP 0 rfl rfl 0 (by decide) lk_7 rfl dX6_totalOf_8 ?_
      refine lv_iconst (v := 1) hx hb dX6_totalOf_11 (by decide) ?_
      refine xald (x := Y 0 14 1) hx hb hK hP 1 rfl (vp_in_lit (by decide)) (row_n _ (o := 1) (by decide)) dX6_totalOf_12 ?_
      refine lv_icmp_ge (tgt := 52) hx hb dX6_totalOf_13 (by decide) (fun c_13 => ?_) (fun c_13 => ?_)
      · have hk2 : k = md (Y 0) := md_ge hok hk (by rw [← ek]; exact c_13)
        subst hk2
        refine lv_iload_n hx hb dX6_totalOf_52 rfl (lv_at hl 3 rfl) ?_
        exact retE hx hb hr hlocks dX6_totalOf_53 ea
      · have hlt := md_lt hok hk (by rw [← ek]; exact c_13)
        have hpk : p_has (Y 0) xk := by rw [ek]; exact has_nI hok hlt.1
        have hhk := hin_has hpk
        refine lv_iload_n hx hb dX6_totalOf_16 rfl (lv_at hl 3 rfl) ?_
        refine lv_iload hx hb dX6_totalOf_17 (lv_at hl 4 rfl) ?_
        refine lv_iload_n hx hb dX6_totalOf_19 rfl (lv_at hl 1 rfl) ?_
        refine lv_icmp_eq (tgt := 33) hx hb dX6_totalOf_20 (by decide) (fun c_20 => ?_) (fun c_20 => ?_)
        · refine lv_aload_n hx hb dX6_totalOf_33 rfl (lv_at hl 0 rfl) ?_
          refine lv_iload hx hb dX6_totalOf_34 (lv_at hl 4 rfl) ?_
          refine lv_iload_n hx hb dX6_totalOf_36 rfl (lv_at hl 2 rfl) ?_
          refine callE (As := [.int xk, .int wh]) (rest := [.int xa]) ⟨hx, hb, hml, hown, hts⟩ (c_X6_valueOf Y xk wh (by assumption)) (cwV 2 hts gX6_totalOf_X6_valueOf rfl rfl rfl (by decide +kernel) ⟨Nat.le_of_ble_eq_true rfl, Nat.le_of_ble_eq_true rfl⟩) hK hN hP 0 rfl rfl rfl hl.1 rfl (Nat.le_of_ble_eq_true rfl) dX6_totalOf_37 ⟨Nat.zero_le _, Nat.zero_le _⟩ ?_
          refine lv_goto (tgt := 44) hx hb dX6_totalOf_40 (by decide) ?_
          refine lv_iadd hx hb dX6_totalOf_44 ?_
          refine lv_istore_n (lv' := [(3, .int (xa + (p_val (Y 0) xk wh))), (0, .ref (am 0)), (1, .int h), (2, .int wh), (4, .int xk)]) hx hb dX6_totalOf_45 rfl hl (by decide) rfl (fun ls hl => ?_)
          refine lv_iinc (v := xk + 1) (lv' := [(4, .int (xk + 1)), (3, .int (xa + (p_val (Y 0) xk wh))), (0, .ref (am 0)), (1, .int h), (2, .int wh)]) hx hb dX6_totalOf_46 hl (k := 4) rfl rfl (by decide) rfl (fun ls hl => ?_)
          refine lv_goto (tgt := 5) hx hb dX6_totalOf_49 (by decide) ?_
          exact ih_5  (k + 1) _ _ (by omega) (by omega) (by rw [ek]; exact nI_1 k) (by rw [ea]; first | (rw [ek]; exact (sumI_ci (by rw [← ek]; first | exact Or.inl c_20 | exact Or.inr c_27) rfl).symm) | (rw [Int32.add_zero]; exact (sumI_c0 (by rw [← ek]; exact fun z => z.elim c_20 c_27) rfl).symm)) _ (lv_sub hl [2, 3, 4, 1, 0] rfl)
        · refine lv_aload_n hx hb dX6_totalOf_23 rfl (lv_at hl 0 rfl) ?_
          refine lv_iload hx hb dX6_totalOf_24 (lv_at hl 4 rfl) ?_
          refine lv_iload_n hx hb dX6_totalOf_26 rfl (lv_at hl 1 rfl) ?_
          refine callB (As := [.int xk, .int h]) (rest := [.int xa]) ⟨hx, hb, hml, hown, hts⟩ (c_X6_isBelow Y hok xk h (by assumption) (by assumption)) (cwV 2 hts gX6_totalOf_X6_isBelow rfl rfl rfl (by decide +kernel) ⟨Nat.le_of_ble_eq_true rfl, Nat.le_of_ble_eq_true rfl⟩) hK hN hP 0 rfl rfl rfl hl.1 rfl (Nat.le_of_ble_eq_true rfl) dX6_totalOf_27 ⟨Nat.zero_le _, Nat.zero_le _⟩ (fun c_27 => ?_) (fun c_27 => ?_)
          · refine lv_if_eq (tgt := 43) hx hb dX6_totalOf_30 (by decide) (fun h9 => absurd h9 (by decide)) (fun _ => ?_)
            refine lv_aload_n hx hb dX6_totalOf_33 rfl (lv_at hl 0 rfl) ?_
            refine lv_iload hx hb dX6_totalOf_34 (lv_at hl 4 rfl) ?_
            refine lv_iload_n hx hb dX6_totalOf_36 rfl (lv_at hl 2 rfl) ?_
            refine callE (As := [.int xk, .int wh]) (rest := [.int xa]) ⟨hx, hb, hml, hown, hts⟩ (c_X6_valueOf Y xk wh (by assumption)) (cwV 2 hts gX6_totalOf_X6_valueOf rfl rfl rfl (by decide +kernel) ⟨Nat.le_of_ble_eq_true rfl, Nat.le_of_ble_eq_true rfl⟩) hK hN hP 0 rfl rfl rfl hl.1 rfl (Nat.le_of_ble_eq_true rfl) dX6_totalOf_37 ⟨Nat.zero_le _, Nat.zero_le _⟩ ?_
            refine lv_goto (tgt := 44) hx hb dX6_totalOf_40 (by decide) ?_
            refine lv_iadd hx hb dX6_totalOf_44 ?_
            refine lv_istore_n (lv' := [(3, .int (xa + (p_val (Y 0) xk wh))), (0, .ref (am 0)), (1, .int h), (2, .int wh), (4, .int xk)]) hx hb dX6_totalOf_45 rfl hl (by decide) rfl (fun ls hl => ?_)
            refine lv_iinc (v := xk + 1) (lv' := [(4, .int (xk + 1)), (3, .int (xa + (p_val (Y 0) xk wh))), (0, .ref (am 0)), (1, .int h), (2, .int wh)]) hx hb dX6_totalOf_46 hl (k := 4) rfl rfl (by decide) rfl (fun ls hl => ?_)
            refine lv_goto (tgt := 5) hx hb dX6_totalOf_49 (by decide) ?_
            exact ih_5  (k + 1) _ _ (by omega) (by omega) (by rw [ek]; exact nI_1 k) (by rw [ea]; first | (rw [ek]; exact (sumI_ci (by rw [← ek]; first | exact Or.inl c_20 | exact Or.inr c_27) rfl).symm) | (rw [Int32.add_zero]; exact (sumI_c0 (by rw [← ek]; exact fun z => z.elim c_20 c_27) rfl).symm)) _ (lv_sub hl [2, 3, 4, 1, 0] rfl)
          · refine lv_if_eq (tgt := 43) hx hb dX6_totalOf_30 (by decide) (fun _ => ?_) (fun h9 => absurd (by decide) h9)
            refine lv_iconst (v := 0) hx hb dX6_totalOf_43 (by decide) ?_
            refine lv_iadd hx hb dX6_totalOf_44 ?_
            refine lv_istore_n (lv' := [(3, .int (xa + 0)), (0, .ref (am 0)), (1, .int h), (2, .int wh), (4, .int xk)]) hx hb dX6_totalOf_45 rfl hl (by decide) rfl (fun ls hl => ?_)
            refine lv_iinc (v := xk + 1) (lv' := [(4, .int (xk + 1)), (3, .int (xa + 0)), (0, .ref (am 0)), (1, .int h), (2, .int wh)]) hx hb dX6_totalOf_46 hl (k := 4) rfl rfl (by decide) rfl (fun ls hl => ?_)
            refine lv_goto (tgt := 5) hx hb dX6_totalOf_49 (by decide) ?_
            exact ih_5  (k + 1) _ _ (by omega) (by omega) (by rw [ek]; exact nI_1 k) (by rw [ea]; first | (rw [ek]; exact (sumI_ci (by rw [← ek]; first | exact Or.inl c_20 | exact Or.inr c_27) rfl).symm) | (rw [Int32.add_zero]; exact (sumI_c0 (by rw [← ek]; exact fun z => z.elim c_20 c_27) rfl).symm)) _ (lv_sub hl [2, 3, 4, 1, 0] rfl)
  exact hloop_5  (md (Y 0) + 1) 0 0 0 (by omega) (by omega) rfl rfl _ (lv_sub hl [2, 3, 4, 1, 0] rfl)
set_option maxHeartbeats 4000000 in
set_option maxRecDepth 100000 in
theorem c_X6_total {l : Launch} {D : va_G} {cI cR : ClassId} {am : Nat → Nat} (Y : St) {K : Int} (hok : Ok K (Y 0)) (h : Int32) (wh : Int32) : RoE l D cI cR (wM cI am Y) yX6_total wsX6_total ({ frames := 5, cells := 0, slots := 0, locals := 109 } : Room) [.ref (am 0), .int h, .int wh] (v_total (Y 0) h wh) := by
  refine OfW (cc := cX6_total) (maxL := 3) (ret := (some .int)) (by decide +kernel) rfl (Nat.le_of_ble_eq_true rfl) (fun p e s m below meth c hx hb hr hts hown hlocks hml hnm hP hK hN ls hl => ?_)
  have hl : lv_has ls 3 [(0, .ref (am 0)), (1, .int h), (2, .int wh)] := hl
  refine lv_aload_n hx hb dX6_total_0 rfl (lv_at hl 0 rfl) ?_
  refine lv_iload_n hx hb dX6_total_1 rfl (lv_at hl 1 rfl) ?_
  refine callB (As := [.int h]) (rest := []) ⟨hx, hb, hml, hown, hts⟩ (c_X6_isHead Y hok h) (cwV 1 hts gX6_total_X6_isHead rfl rfl rfl (by decide +kernel) ⟨Nat.le_of_ble_eq_true rfl, Nat.le_of_ble_eq_true rfl⟩) hK hN hP 0 rfl rfl rfl hl.1 rfl (Nat.le_of_ble_eq_true rfl) dX6_total_2 ⟨Nat.zero_le _, Nat.zero_le _⟩ (fun c_2 => ?_) (fun c_2 => ?_)
  · refine lv_if_eq (tgt := 26) hx hb dX6_total_5 (by decide) (fun h9 => absurd h9 (by decide)) (fun _ => ?_)
    refine lv_iload_n hx hb dX6_total_8 rfl (lv_at hl 2 rfl) ?_
    refine lv_iconst (v := 0) hx hb dX6_total_9 (by decide) ?_
    refine lv_iconst (v := 4) hx hb dX6_total_10 (by decide) ?_
    refine callSB (As := [.int wh, .int 0, .int 4]) (rest := []) ⟨hx, hb, hml, hown, hts⟩ (c_X6_in wh 0 4) (va_cwS 3 hts gX6_total_X6_in rfl rfl rfl (by decide +kernel) ⟨Nat.le_of_ble_eq_true rfl, Nat.le_of_ble_eq_true rfl⟩) hK hN rfl hl.1 rfl (Nat.le_of_ble_eq_true rfl) dX6_total_11 ⟨Nat.zero_le _, Nat.zero_le _⟩ (fun c_11 => ?_) (fun c_11 => ?_)
    · refine lv_if_eq (tgt := 26) hx hb dX6_total_14 (by decide) (fun h9 => absurd h9 (by decide)) (fun _ => ?_)
      refine lv_aload_n hx hb dX6_total_17 rfl (lv_at hl 0 rfl) ?_
      refine lv_iload_n hx hb dX6_total_18 rfl (lv_at hl 1 rfl) ?_
      refine lv_iload_n hx hb dX6_total_19 rfl (lv_at hl 2 rfl) ?_
      refine callE (As := [.int h, .int wh]) (rest := []) ⟨hx, hb, hml, hown, hts⟩ (c_X6_totalOf Y hok h wh (by assumption)) (cwV 2 hts gX6_total_X6_totalOf rfl rfl rfl (by decide +kernel) ⟨Nat.le_of_ble_eq_true rfl, Nat.le_of_ble_eq_true rfl⟩) hK hN hP 0 rfl rfl rfl hl.1 rfl (Nat.le_of_ble_eq_true rfl) dX6_total_20 ⟨Nat.zero_le _, Nat.zero_le _⟩ ?_
      refine lv_goto (tgt := 27) hx hb dX6_total_23 (by decide) ?_
      exact retE hx hb hr hlocks dX6_total_27 (by have h1 := c_11.1; have h2 := c_11.2; rw [t_0] at h1; rw [t_4] at h2; unfold v_total; rw [ci_t c_2, ci_f (by rw [i3_lt, t_0]; omega), ci_t (by rw [i3_le, t_4]; omega)]; exact tot_sum hok h1 h2)
    · refine lv_if_eq (tgt := 26) hx hb dX6_total_14 (by decide) (fun _ => ?_) (fun h9 => absurd (by decide) h9)
      refine lv_iconst (v := (-1)) hx hb dX6_total_26 (by decide) ?_
      exact retE hx hb hr hlocks dX6_total_27 (by unfold v_total; rw [ci_t c_2]; by_cases e0 : wh < 0; rw [ci_t e0]; rw [ci_f e0, ci_f (fun z => c_11 ⟨by rw [i3_lt, t_0] at e0; rw [t_0]; omega, by rw [i3_le] at z; exact z⟩)])
  · refine lv_if_eq (tgt := 26) hx hb dX6_total_5 (by decide) (fun _ => ?_) (fun h9 => absurd (by decide) h9)
    refine lv_iconst (v := (-1)) hx hb dX6_total_26 (by decide) ?_
    exact retE hx hb hr hlocks dX6_total_27 (ci_f c_2).symm
set_option maxHeartbeats 4000000 in
set_option maxRecDepth 100000 in
theorem c_X6_wouldLapse {l : Launch} {D : va_G} {cI cR : ClassId} {am : Nat → Nat} (Y : St) {K : Int} (hok : Ok K (Y 0)) (h : Int32) : RoE l D cI cR (wM cI am Y) yX6_wouldLapse wsX6_wouldLapse ({ frames := 5, cells := 0, slots := 0, locals := 109 } : Room) [.ref (am 0), .int h] (v_lapse (Y 0) h) := by
  refine OfW (cc := cX6_wouldLapse) (maxL := 2) (ret := (some .int)) (by decide +kernel) rfl (Nat.le_of_ble_eq_true rfl) (fun p e s m below meth c hx hb hr hts hown hlocks hml hnm hP hK hN ls hl => ?_)
  have hl : lv_has ls 2 [(0, .ref (am 0)), (1, .int h)] := hl
  refine lv_aload_n hx hb dX6_wouldLapse_0 rfl (lv_at hl 0 rfl) ?_
  refine lv_iload_n hx hb dX6_wouldLapse_1 rfl (lv_at hl 1 rfl) ?_
  refine callB (As := [.int h]) (rest := []) ⟨hx, hb, hml, hown, hts⟩ (c_X6_isHead Y hok h) (cwV 1 hts gX6_wouldLapse_X6_isHead rfl rfl rfl (by decide +kernel) ⟨Nat.le_of_ble_eq_true rfl, Nat.le_of_ble_eq_true rfl⟩) hK hN hP 0 rfl rfl rfl hl.1 rfl (Nat.le_of_ble_eq_true rfl) dX6_wouldLapse_2 ⟨Nat.zero_le _, Nat.zero_le _⟩ (fun c_2 => ?_) (fun c_2 => ?_)
  · refine lv_if_eq (tgt := 17) hx hb dX6_wouldLapse_5 (by decide) (fun h9 => absurd h9 (by decide)) (fun _ => ?_)
    refine lv_aload_n hx hb dX6_wouldLapse_8 rfl (lv_at hl 0 rfl) ?_
    refine lv_iload_n hx hb dX6_wouldLapse_9 rfl (lv_at hl 1 rfl) ?_
    refine lv_iconst (v := 5) hx hb dX6_wouldLapse_10 (by decide) ?_
    refine callE (As := [.int h, .int 5]) (rest := []) ⟨hx, hb, hml, hown, hts⟩ (c_X6_totalOf Y hok h 5 (by assumption)) (cwV 2 hts gX6_wouldLapse_X6_totalOf rfl rfl rfl (by decide +kernel) ⟨Nat.le_of_ble_eq_true rfl, Nat.le_of_ble_eq_true rfl⟩) hK hN hP 0 rfl rfl rfl hl.1 rfl (Nat.le_of_ble_eq_true rfl) dX6_wouldLapse_11 ⟨Nat.zero_le _, Nat.zero_le _⟩ ?_
    refine lv_goto (tgt := 18) hx hb dX6_wouldLapse_14 (by decide) ?_
    exact retE hx hb hr hlocks dX6_wouldLapse_18 (by unfold v_lapse; rw [ci_t c_2]; exact tot_lapse hok)
  · refine lv_if_eq (tgt := 17) hx hb dX6_wouldLapse_5 (by decide) (fun _ => ?_) (fun h9 => absurd (by decide) h9)
    refine lv_iconst (v := (-1)) hx hb dX6_wouldLapse_17 (by decide) ?_
    exact retE hx hb hr hlocks dX6_wouldLapse_18 (ci_f c_2).symm
set_option maxHeartbeats 4000000 in
set_option maxRecDepth 100000 in
theorem c_X6_commitment {l : Launch} {D : va_G} {cI cR : ClassId} {am : Nat → Nat} (Y : St) {K : Int} (hok : Ok K (Y 0)) (q : Int32) (wh : Int32) : RoE l D cI cR (wM cI am Y) yX6_commitment wsX6_commitment ({ frames := 2, cells := 0, slots := 0, locals := 43 } : Room) [.ref (am 0), .int q, .int wh] (v_comm (Y 0) q wh) := by
  refine OfW (cc := cX6_commitment) (maxL := 3) (ret := (some .int)) (by decide +kernel) rfl (Nat.le_of_ble_eq_true rfl) (fun p e s m below meth c hx hb hr hts hown hlocks hml hnm hP hK hN ls hl => ?_)
  have hl : lv_has ls 3 [(0, .ref (am 0)), (1, .int q), (2, .int wh)] := hl
  have lk_7 := hts (.fieldLink RX6 7 "HeadBudgetsModel" "row" "[I") (by decide +kernel)
  have hi_X6 : ∀ w ∈ wsX60, w ∈ wsX6_commitment := by decide +kernel
  refine lv_aload_n hx hb dX6_commitment_0 rfl (lv_at hl 0 rfl) ?_
  refine lv_iload_n hx hb dX6_commitment_1 rfl (lv_at hl 1 rfl) ?_
  refine callB (As := [.int q]) (rest := []) ⟨hx, hb, hml, hown, hts⟩ (c_X6_isCommitment Y hok q) (cwV 1 hts gX6_commitment_X6_isCommitment rfl rfl rfl (by decide +kernel) ⟨Nat.le_of_ble_eq_true rfl, Nat.le_of_ble_eq_true rfl⟩) hK hN hP 0 rfl rfl rfl hl.1 rfl (Nat.le_of_ble_eq_true rfl) dX6_commitment_2 ⟨Nat.zero_le _, Nat.zero_le _⟩ (fun c_2 => ?_) (fun c_2 => ?_)
  · refine lv_if_eq (tgt := 30) hx hb dX6_commitment_5 (by decide) (fun h9 => absurd h9 (by decide)) (fun _ => ?_)
    refine lv_iload_n hx hb dX6_commitment_8 rfl (lv_at hl 2 rfl) ?_
    refine lv_iconst (v := 0) hx hb dX6_commitment_9 (by decide) ?_
    refine lv_iconst (v := 3) hx hb dX6_commitment_10 (by decide) ?_
    refine callSB (As := [.int wh, .int 0, .int 3]) (rest := []) ⟨hx, hb, hml, hown, hts⟩ (c_X6_in wh 0 3) (va_cwS 3 hts gX6_commitment_X6_in rfl rfl rfl (by decide +kernel) ⟨Nat.le_of_ble_eq_true rfl, Nat.le_of_ble_eq_true rfl⟩) hK hN rfl hl.1 rfl (Nat.le_of_ble_eq_true rfl) dX6_commitment_11 ⟨Nat.zero_le _, Nat.zero_le _⟩ (fun c_11 => ?_) (fun c_11 => ?_)
    · refine lv_if_eq (tgt := 30) hx hb dX6_commitment_14 (by decide) (fun h9 => absurd h9 (by decide)) (fun _ => ?_)
      refine lv_aload_n hx hb dX6_commitment_17 rfl (lv_at hl 0 rfl) ?_
      refine xget (C := RX6) (T := TX6) (N := 10) (ci := 6) (w := .ref (am 1)) hx hb hts hi_X6 hown hK hP 0 rfl rfl 0 (by decide) lk_7 rfl dX6_commitment_18 ?_
      refine lv_iload_n hx hb dX6_commitment_21 rfl (lv_at hl 1 rfl) ?_
      refine lv_iload_n hx hb dX6_commitment_22 rfl (lv_at hl 2 rfl) ?_
      refine callSE (As := [.int q, .int wh]) (rest := [.ref (am 1)]) ⟨hx, hb, hml, hown, hts⟩ (c_X6_ofCommitment q wh) (va_cwS 2 hts gX6_commitment_X6_ofCommitment rfl rfl rfl (by decide +kernel) ⟨Nat.le_of_ble_eq_true rfl, Nat.le_of_ble_eq_true rfl⟩) hK hN rfl hl.1 rfl (Nat.le_of_ble_eq_true rfl) dX6_commitment_23 ⟨Nat.zero_le _, Nat.zero_le _⟩ ?_
      refine xald (x := comm3 (Y 0) q wh) hx hb hK hP 1 rfl (oC_in3 (cin_has c_2) c_11) (row_c3 (cin_has c_2) c_11) dX6_commitment_26 ?_
      refine lv_goto (tgt := 31) hx hb dX6_commitment_27 (by decide) ?_
      exact retE hx hb hr hlocks dX6_commitment_31 (comm_yes c_2 c_11).symm
    · refine lv_if_eq (tgt := 30) hx hb dX6_commitment_14 (by decide) (fun _ => ?_) (fun h9 => absurd (by decide) h9)
      refine lv_iconst (v := (-1)) hx hb dX6_commitment_30 (by decide) ?_
      exact retE hx hb hr hlocks dX6_commitment_31 (comm_no c_2 c_11).symm
  · refine lv_if_eq (tgt := 30) hx hb dX6_commitment_5 (by decide) (fun _ => ?_) (fun h9 => absurd (by decide) h9)
    refine lv_iconst (v := (-1)) hx hb dX6_commitment_30 (by decide) ?_
    exact retE hx hb hr hlocks dX6_commitment_31 (ci_f c_2).symm
set_option maxHeartbeats 4000000 in
set_option maxRecDepth 100000 in
theorem c_X6_isAllowed {l : Launch} {D : va_G} {cI cR : ClassId} {am : Nat → Nat} (Y : St) {K : Int} (hok : Ok K (Y 0)) (f : Int32) (t : Int32) (hp : p_has (Y 0) f) (hq : p_has (Y 0) t) (hne : f ≠ t) : RoB l D cI cR (wM cI am Y) yX6_isAllowed wsX6_isAllowed ({ frames := 3, cells := 0, slots := 0, locals := 65 } : Room) [.ref (am 0), .int f, .int t] (p_may (Y 0) f t) := by
  refine OfW (cc := cX6_isAllowed) (maxL := 4) (ret := (some .boolean)) (by decide +kernel) rfl (Nat.le_of_ble_eq_true rfl) (fun p e s m below meth c hx hb hr hts hown hlocks hml hnm hP hK hN ls hl => ?_)
  have hl : lv_has ls 4 [(0, .ref (am 0)), (1, .int f), (2, .int t)] := hl
  have lk_7 := hts (.fieldLink RX6 7 "HeadBudgetsModel" "row" "[I") (by decide +kernel)
  have hi_X6 : ∀ w ∈ wsX60, w ∈ wsX6_isAllowed := by decide +kernel
  have hh1 := hin_has hp
  have hh2 := hin_has hq
  refine lv_aload_n hx hb dX6_isAllowed_0 rfl (lv_at hl 0 rfl) ?_
  refine lv_iload_n hx hb dX6_isAllowed_1 rfl (lv_at hl 1 rfl) ?_
  refine lv_iload_n hx hb dX6_isAllowed_2 rfl (lv_at hl 2 rfl) ?_
  refine callB (As := [.int f, .int t]) (rest := []) ⟨hx, hb, hml, hown, hts⟩ (c_X6_isBelow Y hok f t (by assumption) (by assumption)) (cwV 2 hts gX6_isAllowed_X6_isBelow rfl rfl rfl (by decide +kernel) ⟨Nat.le_of_ble_eq_true rfl, Nat.le_of_ble_eq_true rfl⟩) hK hN hP 0 rfl rfl rfl hl.1 rfl (Nat.le_of_ble_eq_true rfl) dX6_isAllowed_3 ⟨Nat.zero_le _, Nat.zero_le _⟩ (fun c_3 => ?_) (fun c_3 => ?_)
  · refine lv_if_ne (tgt := 31) hx hb dX6_isAllowed_6 (by decide) (fun _ => ?_) (fun h9 => absurd h9 (by decide))
    refine lv_iconst (v := 1) hx hb dX6_isAllowed_31 (by decide) ?_
    refine lv_goto (tgt := 36) hx hb dX6_isAllowed_32 (by decide) ?_
    refine lv_istore_n (lv' := [(3, .int 1), (0, .ref (am 0)), (1, .int f), (2, .int t)]) hx hb dX6_isAllowed_36 rfl hl (by decide) rfl (fun ls hl => ?_)
    refine lv_aload_n hx hb dX6_isAllowed_37 rfl (lv_at hl 1 rfl) ?_
    refine lv_iload_n hx hb dX6_isAllowed_38 rfl (lv_at hl 2 rfl) ?_
    refine callB (As := [.int f]) (rest := []) ⟨hx, hb, hml, hown, hts⟩ (c_X6_isBarred Y hok f (by assumption)) (cwV 1 hts gX6_isAllowed_X6_isBarred rfl rfl rfl (by decide +kernel) ⟨Nat.le_of_ble_eq_true rfl, Nat.le_of_ble_eq_true rfl⟩) hK hN hP 0 rfl rfl rfl hl.1 rfl (Nat.le_of_ble_eq_true rfl) dX6_isAllowed_39 ⟨Nat.zero_le _, Nat.zero_le _⟩ (fun c_39 => ?_) (fun c_39 => ?_)
    · refine lv_if_ne (tgt := 84) hx hb dX6_isAllowed_42 (by decide) (fun _ => ?_) (fun h9 => absurd h9 (by decide))
      refine lv_iconst (v := 0) hx hb dX6_isAllowed_84 (by decide) ?_
      exact retB0 hx hb hr hlocks dX6_isAllowed_85 (by first | exact fun z => z.2.2.2.1 c_39 | exact fun z => z.2.2.2.2.1 c_47 | exact fun z => may_no hok hp hq z c_3 c_12 c_28 c_77)
    · refine lv_if_ne (tgt := 84) hx hb dX6_isAllowed_42 (by decide) (fun h9 => absurd (by decide) h9) (fun _ => ?_)
      refine lv_aload_n hx hb dX6_isAllowed_45 rfl (lv_at hl 1 rfl) ?_
      refine lv_iload_n hx hb dX6_isAllowed_46 rfl (lv_at hl 3 rfl) ?_
      refine callB (As := [.int t]) (rest := []) ⟨hx, hb, hml, hown, hts⟩ (c_X6_isBarred Y hok t (by assumption)) (cwV 1 hts gX6_isAllowed_X6_isBarred rfl rfl rfl (by decide +kernel) ⟨Nat.le_of_ble_eq_true rfl, Nat.le_of_ble_eq_true rfl⟩) hK hN hP 0 rfl rfl rfl hl.1 rfl (Nat.le_of_ble_eq_true rfl) dX6_isAllowed_47 ⟨Nat.zero_le _, Nat.zero_le _⟩ (fun c_47 => ?_) (fun c_47 => ?_)
      · refine lv_if_ne (tgt := 84) hx hb dX6_isAllowed_50 (by decide) (fun _ => ?_) (fun h9 => absurd h9 (by decide))
        refine lv_iconst (v := 0) hx hb dX6_isAllowed_84 (by decide) ?_
        exact retB0 hx hb hr hlocks dX6_isAllowed_85 (by first | exact fun z => z.2.2.2.1 c_39 | exact fun z => z.2.2.2.2.1 c_47 | exact fun z => may_no hok hp hq z c_3 c_12 c_28 c_77)
      · refine lv_if_ne (tgt := 84) hx hb dX6_isAllowed_50 (by decide) (fun h9 => absurd (by decide) h9) (fun _ => ?_)
        refine lv_iload_n hx hb dX6_isAllowed_53 rfl (lv_at hl 0 rfl) ?_
        refine lv_if_ne (tgt := 80) hx hb dX6_isAllowed_54 (by decide) (fun _ => ?_) (fun h9 => absurd h9 (by decide))
        refine lv_iconst (v := 1) hx hb dX6_isAllowed_80 (by decide) ?_
        refine lv_goto (tgt := 85) hx hb dX6_isAllowed_81 (by decide) ?_
        exact retB1 hx hb hr hlocks dX6_isAllowed_85 (by first | exact may_ref hok hp hq hne c_39 c_47 (Or.inl c_3) | exact may_ref hok hp hq hne c_39 c_47 (Or.inr (Or.inl c_12)) | exact may_ref hok hp hq hne c_39 c_47 (Or.inr (Or.inr (Or.inl c_28))) | exact may_ref hok hp hq hne c_39 c_47 (Or.inr (Or.inr (Or.inr (Int32.not_lt.mp c_77)))))
  · refine lv_if_ne (tgt := 31) hx hb dX6_isAllowed_6 (by decide) (fun h9 => absurd (by decide) h9) (fun _ => ?_)
    refine lv_aload_n hx hb dX6_isAllowed_9 rfl (lv_at hl 0 rfl) ?_
    refine lv_iload_n hx hb dX6_isAllowed_10 rfl (lv_at hl 2 rfl) ?_
    refine lv_iload_n hx hb dX6_isAllowed_11 rfl (lv_at hl 1 rfl) ?_
    refine callB (As := [.int t, .int f]) (rest := []) ⟨hx, hb, hml, hown, hts⟩ (c_X6_isBelow Y hok t f (by assumption) (by assumption)) (cwV 2 hts gX6_isAllowed_X6_isBelow rfl rfl rfl (by decide +kernel) ⟨Nat.le_of_ble_eq_true rfl, Nat.le_of_ble_eq_true rfl⟩) hK hN hP 0 rfl rfl rfl hl.1 rfl (Nat.le_of_ble_eq_true rfl) dX6_isAllowed_12 ⟨Nat.zero_le _, Nat.zero_le _⟩ (fun c_12 => ?_) (fun c_12 => ?_)
    · refine lv_if_ne (tgt := 31) hx hb dX6_isAllowed_15 (by decide) (fun _ => ?_) (fun h9 => absurd h9 (by decide))
      refine lv_iconst (v := 1) hx hb dX6_isAllowed_31 (by decide) ?_
      refine lv_goto (tgt := 36) hx hb dX6_isAllowed_32 (by decide) ?_
      refine lv_istore_n (lv' := [(3, .int 1), (0, .ref (am 0)), (1, .int f), (2, .int t)]) hx hb dX6_isAllowed_36 rfl hl (by decide) rfl (fun ls hl => ?_)
      refine lv_aload_n hx hb dX6_isAllowed_37 rfl (lv_at hl 1 rfl) ?_
      refine lv_iload_n hx hb dX6_isAllowed_38 rfl (lv_at hl 2 rfl) ?_
      refine callB (As := [.int f]) (rest := []) ⟨hx, hb, hml, hown, hts⟩ (c_X6_isBarred Y hok f (by assumption)) (cwV 1 hts gX6_isAllowed_X6_isBarred rfl rfl rfl (by decide +kernel) ⟨Nat.le_of_ble_eq_true rfl, Nat.le_of_ble_eq_true rfl⟩) hK hN hP 0 rfl rfl rfl hl.1 rfl (Nat.le_of_ble_eq_true rfl) dX6_isAllowed_39 ⟨Nat.zero_le _, Nat.zero_le _⟩ (fun c_39 => ?_) (fun c_39 => ?_)
      · refine lv_if_ne (tgt := 84) hx hb dX6_isAllowed_42 (by decide) (fun _ => ?_) (fun h9 => absurd h9 (by decide))
        refine lv_iconst (v := 0) hx hb dX6_isAllowed_84 (by decide) ?_
        exact retB0 hx hb hr hlocks dX6_isAllowed_85 (by first | exact fun z => z.2.2.2.1 c_39 | exact fun z => z.2.2.2.2.1 c_47 | exact fun z => may_no hok hp hq z c_3 c_12 c_28 c_77)
      · refine lv_if_ne (tgt := 84) hx hb dX6_isAllowed_42 (by decide) (fun h9 => absurd (by decide) h9) (fun _ => ?_)
        refine lv_aload_n hx hb dX6_isAllowed_45 rfl (lv_at hl 1 rfl) ?_
        refine lv_iload_n hx hb dX6_isAllowed_46 rfl (lv_at hl 3 rfl) ?_
        refine callB (As := [.int t]) (rest := []) ⟨hx, hb, hml, hown, hts⟩ (c_X6_isBarred Y hok t (by assumption)) (cwV 1 hts gX6_isAllowed_X6_isBarred rfl rfl rfl (by decide +kernel) ⟨Nat.le_of_ble_eq_true rfl, Nat.le_of_ble_eq_true rfl⟩) hK hN hP 0 rfl rfl rfl hl.1 rfl (Nat.le_of_ble_eq_true rfl) dX6_isAllowed_47 ⟨Nat.zero_le _, Nat.zero_le _⟩ (fun c_47 => ?_) (fun c_47 => ?_)
        · refine lv_if_ne (tgt := 84) hx hb dX6_isAllowed_50 (by decide) (fun _ => ?_) (fun h9 => absurd h9 (by decide))
          refine lv_iconst (v := 0) hx hb dX6_isAllowed_84 (by decide) ?_
          exact retB0 hx hb hr hlocks dX6_isAllowed_85 (by first | exact fun z => z.2.2.2.1 c_39 | exact fun z => z.2.2.2.2.1 c_47 | exact fun z => may_no hok hp hq z c_3 c_12 c_28 c_77)
        · refine lv_if_ne (tgt := 84) hx hb dX6_isAllowed_50 (by decide) (fun h9 => absurd (by decide) h9) (fun _ => ?_)
          refine lv_iload_n hx hb dX6_isAllowed_53 rfl (lv_at hl 0 rfl) ?_
          refine lv_if_ne (tgt := 80) hx hb dX6_isAllowed_54 (by decide) (fun _ => ?_) (fun h9 => absurd h9 (by decide))
          refine lv_iconst (v := 1) hx hb dX6_isAllowed_80 (by decide) ?_
          refine lv_goto (tgt := 85) hx hb dX6_isAllowed_81 (by decide) ?_
          exact retB1 hx hb hr hlocks dX6_isAllowed_85 (by first | exact may_ref hok hp hq hne c_39 c_47 (Or.inl c_3) | exact may_ref hok hp hq hne c_39 c_47 (Or.inr (Or.inl c_12)) | exact may_ref hok hp hq hne c_39 c_47 (Or.inr (Or.inr (Or.inl c_28))) | exact may_ref hok hp hq hne c_39 c_47 (Or.inr (Or.inr (Or.inr (Int32.not_lt.mp c_77)))))
    · refine lv_if_ne (tgt := 31) hx hb dX6_isAllowed_15 (by decide) (fun h9 => absurd (by decide) h9) (fun _ => ?_)
      refine lv_aload_n hx hb dX6_isAllowed_18 rfl (lv_at hl 0 rfl) ?_
      refine lv_iload_n hx hb dX6_isAllowed_19 rfl (lv_at hl 1 rfl) ?_
      refine callE (As := [.int f]) (rest := []) ⟨hx, hb, hml, hown, hts⟩ (c_X6_aboveOf Y f (by assumption)) (cwV 1 hts gX6_isAllowed_X6_aboveOf rfl rfl rfl (by decide +kernel) ⟨Nat.le_of_ble_eq_true rfl, Nat.le_of_ble_eq_true rfl⟩) hK hN hP 0 rfl rfl rfl hl.1 rfl (Nat.le_of_ble_eq_true rfl) dX6_isAllowed_20 ⟨Nat.zero_le _, Nat.zero_le _⟩ ?_
      refine lv_aload_n hx hb dX6_isAllowed_23 rfl (lv_at hl 0 rfl) ?_
      refine lv_iload_n hx hb dX6_isAllowed_24 rfl (lv_at hl 2 rfl) ?_
      refine callE (As := [.int t]) (rest := [.int (qv (Y 0) 0 f)]) ⟨hx, hb, hml, hown, hts⟩ (c_X6_aboveOf Y t (by assumption)) (cwV 1 hts gX6_isAllowed_X6_aboveOf rfl rfl rfl (by decide +kernel) ⟨Nat.le_of_ble_eq_true rfl, Nat.le_of_ble_eq_true rfl⟩) hK hN hP 0 rfl rfl rfl hl.1 rfl (Nat.le_of_ble_eq_true rfl) dX6_isAllowed_25 ⟨Nat.zero_le _, Nat.zero_le _⟩ ?_
      refine lv_icmp_ne (tgt := 35) hx hb dX6_isAllowed_28 (by decide) (fun c_28 => ?_) (fun c_28 => ?_)
      · refine lv_iconst (v := 0) hx hb dX6_isAllowed_35 (by decide) ?_
        refine lv_istore_n (lv' := [(3, .int 0), (0, .ref (am 0)), (1, .int f), (2, .int t)]) hx hb dX6_isAllowed_36 rfl hl (by decide) rfl (fun ls hl => ?_)
        refine lv_aload_n hx hb dX6_isAllowed_37 rfl (lv_at hl 1 rfl) ?_
        refine lv_iload_n hx hb dX6_isAllowed_38 rfl (lv_at hl 2 rfl) ?_
        refine callB (As := [.int f]) (rest := []) ⟨hx, hb, hml, hown, hts⟩ (c_X6_isBarred Y hok f (by assumption)) (cwV 1 hts gX6_isAllowed_X6_isBarred rfl rfl rfl (by decide +kernel) ⟨Nat.le_of_ble_eq_true rfl, Nat.le_of_ble_eq_true rfl⟩) hK hN hP 0 rfl rfl rfl hl.1 rfl (Nat.le_of_ble_eq_true rfl) dX6_isAllowed_39 ⟨Nat.zero_le _, Nat.zero_le _⟩ (fun c_39 => ?_) (fun c_39 => ?_)
        · refine lv_if_ne (tgt := 84) hx hb dX6_isAllowed_42 (by decide) (fun _ => ?_) (fun h9 => absurd h9 (by decide))
          refine lv_iconst (v := 0) hx hb dX6_isAllowed_84 (by decide) ?_
          exact retB0 hx hb hr hlocks dX6_isAllowed_85 (by first | exact fun z => z.2.2.2.1 c_39 | exact fun z => z.2.2.2.2.1 c_47 | exact fun z => may_no hok hp hq z c_3 c_12 c_28 c_77)
        · refine lv_if_ne (tgt := 84) hx hb dX6_isAllowed_42 (by decide) (fun h9 => absurd (by decide) h9) (fun _ => ?_)
          refine lv_aload_n hx hb dX6_isAllowed_45 rfl (lv_at hl 1 rfl) ?_
          refine lv_iload_n hx hb dX6_isAllowed_46 rfl (lv_at hl 3 rfl) ?_
          refine callB (As := [.int t]) (rest := []) ⟨hx, hb, hml, hown, hts⟩ (c_X6_isBarred Y hok t (by assumption)) (cwV 1 hts gX6_isAllowed_X6_isBarred rfl rfl rfl (by decide +kernel) ⟨Nat.le_of_ble_eq_true rfl, Nat.le_of_ble_eq_true rfl⟩) hK hN hP 0 rfl rfl rfl hl.1 rfl (Nat.le_of_ble_eq_true rfl) dX6_isAllowed_47 ⟨Nat.zero_le _, Nat.zero_le _⟩ (fun c_47 => ?_) (fun c_47 => ?_)
          · refine lv_if_ne (tgt := 84) hx hb dX6_isAllowed_50 (by decide) (fun _ => ?_) (fun h9 => absurd h9 (by decide))
            refine lv_iconst (v := 0) hx hb dX6_isAllowed_84 (by decide) ?_
            exact retB0 hx hb hr hlocks dX6_isAllowed_85 (by first | exact fun z => z.2.2.2.1 c_39 | exact fun z => z.2.2.2.2.1 c_47 | exact fun z => may_no hok hp hq z c_3 c_12 c_28 c_77)
          · refine lv_if_ne (tgt := 84) hx hb dX6_isAllowed_50 (by decide) (fun h9 => absurd (by decide) h9) (fun _ => ?_)
            refine lv_iload_n hx hb dX6_isAllowed_53 rfl (lv_at hl 0 rfl) ?_
            refine lv_if_ne (tgt := 80) hx hb dX6_isAllowed_54 (by decide) (fun h9 => absurd (by decide) h9) (fun _ => ?_)
            refine lv_aload_n hx hb dX6_isAllowed_57 rfl (lv_at hl 1 rfl) ?_
            refine xget (C := RX6) (T := TX6) (N := 10) (ci := 6) (w := .ref (am 1)) hx hb hts hi_X6 hown hK hP 0 rfl rfl 0 (by decide) lk_7 rfl dX6_isAllowed_58 ?_
            refine lv_iload_n hx hb dX6_isAllowed_61 rfl (lv_at hl 2 rfl) ?_
            refine lv_iconst (v := 1) hx hb dX6_isAllowed_62 (by decide) ?_
            refine callSE (As := [.int f, .int 1]) (rest := [.ref (am 1)]) ⟨hx, hb, hml, hown, hts⟩ (c_X6_of f 1) (va_cwS 2 hts gX6_isAllowed_X6_of rfl rfl rfl (by decide +kernel) ⟨Nat.le_of_ble_eq_true rfl, Nat.le_of_ble_eq_true rfl⟩) hK hN rfl hl.1 rfl (Nat.le_of_ble_eq_true rfl) dX6_isAllowed_63 ⟨Nat.zero_le _, Nat.zero_le _⟩ ?_
            refine xald (x := qv (Y 0) 1 f) hx hb hK hP 1 rfl (oH_in (n := 1) (by assumption) (by decide)) (row_oH (n := 1) (by assumption) (by decide)) dX6_isAllowed_66 ?_
            refine lv_aload_n hx hb dX6_isAllowed_67 rfl (lv_at hl 1 rfl) ?_
            refine xget (C := RX6) (T := TX6) (N := 10) (ci := 6) (w := .ref (am 1)) hx hb hts hi_X6 hown hK hP 0 rfl rfl 0 (by decide) lk_7 rfl dX6_isAllowed_68 ?_
            refine lv_iload_n hx hb dX6_isAllowed_71 rfl (lv_at hl 3 rfl) ?_
            refine lv_iconst (v := 1) hx hb dX6_isAllowed_72 (by decide) ?_
            refine callSE (As := [.int t, .int 1]) (rest := [.ref (am 1), .int (qv (Y 0) 1 f)]) ⟨hx, hb, hml, hown, hts⟩ (c_X6_of t 1) (va_cwS 2 hts gX6_isAllowed_X6_of rfl rfl rfl (by decide +kernel) ⟨Nat.le_of_ble_eq_true rfl, Nat.le_of_ble_eq_true rfl⟩) hK hN rfl hl.1 rfl (Nat.le_of_ble_eq_true rfl) dX6_isAllowed_73 ⟨Nat.zero_le _, Nat.zero_le _⟩ ?_
            refine xald (x := qv (Y 0) 1 t) hx hb hK hP 1 rfl (oH_in (n := 1) (by assumption) (by decide)) (row_oH (n := 1) (by assumption) (by decide)) dX6_isAllowed_76 ?_
            refine lv_icmp_gt (tgt := 84) hx hb dX6_isAllowed_77 (by decide) (fun c_77 => ?_) (fun c_77 => ?_)
            · refine lv_iconst (v := 0) hx hb dX6_isAllowed_84 (by decide) ?_
              exact retB0 hx hb hr hlocks dX6_isAllowed_85 (by first | exact fun z => z.2.2.2.1 c_39 | exact fun z => z.2.2.2.2.1 c_47 | exact fun z => may_no hok hp hq z c_3 c_12 c_28 c_77)
            · refine lv_iconst (v := 1) hx hb dX6_isAllowed_80 (by decide) ?_
              refine lv_goto (tgt := 85) hx hb dX6_isAllowed_81 (by decide) ?_
              exact retB1 hx hb hr hlocks dX6_isAllowed_85 (by first | exact may_ref hok hp hq hne c_39 c_47 (Or.inl c_3) | exact may_ref hok hp hq hne c_39 c_47 (Or.inr (Or.inl c_12)) | exact may_ref hok hp hq hne c_39 c_47 (Or.inr (Or.inr (Or.inl c_28))) | exact may_ref hok hp hq hne c_39 c_47 (Or.inr (Or.inr (Or.inr (Int32.not_lt.mp c_77)))))
      · refine lv_iconst (v := 1) hx hb dX6_isAllowed_31 (by decide) ?_
        refine lv_goto (tgt := 36) hx hb dX6_isAllowed_32 (by decide) ?_
        refine lv_istore_n (lv' := [(3, .int 1), (0, .ref (am 0)), (1, .int f), (2, .int t)]) hx hb dX6_isAllowed_36 rfl hl (by decide) rfl (fun ls hl => ?_)
        refine lv_aload_n hx hb dX6_isAllowed_37 rfl (lv_at hl 1 rfl) ?_
        refine lv_iload_n hx hb dX6_isAllowed_38 rfl (lv_at hl 2 rfl) ?_
        refine callB (As := [.int f]) (rest := []) ⟨hx, hb, hml, hown, hts⟩ (c_X6_isBarred Y hok f (by assumption)) (cwV 1 hts gX6_isAllowed_X6_isBarred rfl rfl rfl (by decide +kernel) ⟨Nat.le_of_ble_eq_true rfl, Nat.le_of_ble_eq_true rfl⟩) hK hN hP 0 rfl rfl rfl hl.1 rfl (Nat.le_of_ble_eq_true rfl) dX6_isAllowed_39 ⟨Nat.zero_le _, Nat.zero_le _⟩ (fun c_39 => ?_) (fun c_39 => ?_)
        · refine lv_if_ne (tgt := 84) hx hb dX6_isAllowed_42 (by decide) (fun _ => ?_) (fun h9 => absurd h9 (by decide))
          refine lv_iconst (v := 0) hx hb dX6_isAllowed_84 (by decide) ?_
          exact retB0 hx hb hr hlocks dX6_isAllowed_85 (by first | exact fun z => z.2.2.2.1 c_39 | exact fun z => z.2.2.2.2.1 c_47 | exact fun z => may_no hok hp hq z c_3 c_12 c_28 c_77)
        · refine lv_if_ne (tgt := 84) hx hb dX6_isAllowed_42 (by decide) (fun h9 => absurd (by decide) h9) (fun _ => ?_)
          refine lv_aload_n hx hb dX6_isAllowed_45 rfl (lv_at hl 1 rfl) ?_
          refine lv_iload_n hx hb dX6_isAllowed_46 rfl (lv_at hl 3 rfl) ?_
          refine callB (As := [.int t]) (rest := []) ⟨hx, hb, hml, hown, hts⟩ (c_X6_isBarred Y hok t (by assumption)) (cwV 1 hts gX6_isAllowed_X6_isBarred rfl rfl rfl (by decide +kernel) ⟨Nat.le_of_ble_eq_true rfl, Nat.le_of_ble_eq_true rfl⟩) hK hN hP 0 rfl rfl rfl hl.1 rfl (Nat.le_of_ble_eq_true rfl) dX6_isAllowed_47 ⟨Nat.zero_le _, Nat.zero_le _⟩ (fun c_47 => ?_) (fun c_47 => ?_)
          · refine lv_if_ne (tgt := 84) hx hb dX6_isAllowed_50 (by decide) (fun _ => ?_) (fun h9 => absurd h9 (by decide))
            refine lv_iconst (v := 0) hx hb dX6_isAllowed_84 (by decide) ?_
            exact retB0 hx hb hr hlocks dX6_isAllowed_85 (by first | exact fun z => z.2.2.2.1 c_39 | exact fun z => z.2.2.2.2.1 c_47 | exact fun z => may_no hok hp hq z c_3 c_12 c_28 c_77)
          · refine lv_if_ne (tgt := 84) hx hb dX6_isAllowed_50 (by decide) (fun h9 => absurd (by decide) h9) (fun _ => ?_)
            refine lv_iload_n hx hb dX6_isAllowed_53 rfl (lv_at hl 0 rfl) ?_
            refine lv_if_ne (tgt := 80) hx hb dX6_isAllowed_54 (by decide) (fun _ => ?_) (fun h9 => absurd h9 (by decide))
            refine lv_iconst (v := 1) hx hb dX6_isAllowed_80 (by decide) ?_
            refine lv_goto (tgt := 85) hx hb dX6_isAllowed_81 (by decide) ?_
            exact retB1 hx hb hr hlocks dX6_isAllowed_85 (by first | exact may_ref hok hp hq hne c_39 c_47 (Or.inl c_3) | exact may_ref hok hp hq hne c_39 c_47 (Or.inr (Or.inl c_12)) | exact may_ref hok hp hq hne c_39 c_47 (Or.inr (Or.inr (Or.inl c_28))) | exact may_ref hok hp hq hne c_39 c_47 (Or.inr (Or.inr (Or.inr (Int32.not_lt.mp c_77)))))
set_option maxHeartbeats 4000000 in
set_option maxRecDepth 100000 in
theorem c_X6_mostOf {l : Launch} {D : va_G} {cI cR : ClassId} {am : Nat → Nat} (Y : St) {K : Int} (hok : Ok K (Y 0)) (f : Int32) (t : Int32) (hp : p_has (Y 0) f) (hq : p_has (Y 0) t) (hne : f ≠ t) : RoE l D cI cR (wM cI am Y) yX6_mostOf wsX6_mostOf ({ frames := 4, cells := 0, slots := 0, locals := 88 } : Room) [.ref (am 0), .int f, .int t] (p_mov (Y 0) f t) := by
  refine OfW (cc := cX6_mostOf) (maxL := 4) (ret := (some .int)) (by decide +kernel) rfl (Nat.le_of_ble_eq_true rfl) (fun p e s m below meth c hx hb hr hts hown hlocks hml hnm hP hK hN ls hl => ?_)
  have hl : lv_has ls 4 [(0, .ref (am 0)), (1, .int f), (2, .int t)] := hl
  have hh1 := hin_has hp
  refine lv_aload_n hx hb dX6_mostOf_0 rfl (lv_at hl 0 rfl) ?_
  refine lv_iload_n hx hb dX6_mostOf_1 rfl (lv_at hl 1 rfl) ?_
  refine lv_iload_n hx hb dX6_mostOf_2 rfl (lv_at hl 2 rfl) ?_
  refine callB (As := [.int f, .int t]) (rest := []) ⟨hx, hb, hml, hown, hts⟩ (c_X6_isAllowed Y hok f t (by assumption) (by assumption) (by assumption)) (cwV 2 hts gX6_mostOf_X6_isAllowed rfl rfl rfl (by decide +kernel) ⟨Nat.le_of_ble_eq_true rfl, Nat.le_of_ble_eq_true rfl⟩) hK hN hP 0 rfl rfl rfl hl.1 rfl (Nat.le_of_ble_eq_true rfl) dX6_mostOf_3 ⟨Nat.zero_le _, Nat.zero_le _⟩ (fun c_3 => ?_) (fun c_3 => ?_)
  · refine lv_if_ne (tgt := 11) hx hb dX6_mostOf_6 (by decide) (fun _ => ?_) (fun h9 => absurd h9 (by decide))
    refine lv_aload_n hx hb dX6_mostOf_11 rfl (lv_at hl 0 rfl) ?_
    refine lv_iload_n hx hb dX6_mostOf_12 rfl (lv_at hl 1 rfl) ?_
    refine callE (As := [.int f]) (rest := []) ⟨hx, hb, hml, hown, hts⟩ (c_X6_free Y f (by assumption)) (cwV 1 hts gX6_mostOf_X6_free rfl rfl rfl (by decide +kernel) ⟨Nat.le_of_ble_eq_true rfl, Nat.le_of_ble_eq_true rfl⟩) hK hN hP 0 rfl rfl rfl hl.1 rfl (Nat.le_of_ble_eq_true rfl) dX6_mostOf_13 ⟨Nat.zero_le _, Nat.zero_le _⟩ ?_
    refine lv_aload_n hx hb dX6_mostOf_16 rfl (lv_at hl 0 rfl) ?_
    refine lv_iload_n hx hb dX6_mostOf_17 rfl (lv_at hl 1 rfl) ?_
    refine callE (As := [.int f]) (rest := [.int (fr (Y 0) f)]) ⟨hx, hb, hml, hown, hts⟩ (c_X6_leaveOf Y f (by assumption)) (cwV 1 hts gX6_mostOf_X6_leaveOf rfl rfl rfl (by decide +kernel) ⟨Nat.le_of_ble_eq_true rfl, Nat.le_of_ble_eq_true rfl⟩) hK hN hP 0 rfl rfl rfl hl.1 rfl (Nat.le_of_ble_eq_true rfl) dX6_mostOf_18 ⟨Nat.zero_le _, Nat.zero_le _⟩ ?_
    refine lv_icmp_ge (tgt := 32) hx hb dX6_mostOf_21 (by decide) (fun c_21 => ?_) (fun c_21 => ?_)
    · refine lv_aload_n hx hb dX6_mostOf_32 rfl (lv_at hl 0 rfl) ?_
      refine lv_iload_n hx hb dX6_mostOf_33 rfl (lv_at hl 1 rfl) ?_
      refine callE (As := [.int f]) (rest := []) ⟨hx, hb, hml, hown, hts⟩ (c_X6_leaveOf Y f (by assumption)) (cwV 1 hts gX6_mostOf_X6_leaveOf rfl rfl rfl (by decide +kernel) ⟨Nat.le_of_ble_eq_true rfl, Nat.le_of_ble_eq_true rfl⟩) hK hN hP 0 rfl rfl rfl hl.1 rfl (Nat.le_of_ble_eq_true rfl) dX6_mostOf_34 ⟨Nat.zero_le _, Nat.zero_le _⟩ ?_
      refine lv_istore_n (lv' := [(3, .int (p_lv (Y 0) f)), (0, .ref (am 0)), (1, .int f), (2, .int t)]) hx hb dX6_mostOf_37 rfl hl (by decide) rfl (fun ls hl => ?_)
      refine lv_iload_n hx hb dX6_mostOf_38 rfl (lv_at hl 0 rfl) ?_
      refine lv_if_ge (tgt := 46) hx hb dX6_mostOf_39 (by decide) (fun c_39 => ?_) (fun c_39 => ?_)
      · refine lv_iload_n hx hb dX6_mostOf_46 rfl (lv_at hl 0 rfl) ?_
        refine lv_ldc (v := 100000) hx hb hown (hts (.constant RX6 42 100000) (by decide +kernel)) dX6_mostOf_47 ?_
        refine lv_icmp_ge (tgt := 56) hx hb dX6_mostOf_49 (by decide) (fun c_49 => ?_) (fun c_49 => ?_)
        · refine lv_ldc (v := 100000) hx hb hown (hts (.constant RX6 42 100000) (by decide +kernel)) dX6_mostOf_56 ?_
          exact retE hx hb hr hlocks dX6_mostOf_58 (by rw [mov_1 c_3 _ _ (free_fr hp) rfl]; (first | rw [min_a c_21] | rw [min_b c_21]); first | exact (mx_neg c_39).symm | exact (mx_big c_49).symm | exact (mx_mid c_39 c_49).symm)
        · refine lv_iload_n hx hb dX6_mostOf_52 rfl (lv_at hl 0 rfl) ?_
          refine lv_goto (tgt := 58) hx hb dX6_mostOf_53 (by decide) ?_
          exact retE hx hb hr hlocks dX6_mostOf_58 (by rw [mov_1 c_3 _ _ (free_fr hp) rfl]; (first | rw [min_a c_21] | rw [min_b c_21]); first | exact (mx_neg c_39).symm | exact (mx_big c_49).symm | exact (mx_mid c_39 c_49).symm)
      · refine lv_iconst (v := 0) hx hb dX6_mostOf_42 (by decide) ?_
        refine lv_goto (tgt := 58) hx hb dX6_mostOf_43 (by decide) ?_
        exact retE hx hb hr hlocks dX6_mostOf_58 (by rw [mov_1 c_3 _ _ (free_fr hp) rfl]; (first | rw [min_a c_21] | rw [min_b c_21]); first | exact (mx_neg c_39).symm | exact (mx_big c_49).symm | exact (mx_mid c_39 c_49).symm)
    · refine lv_aload_n hx hb dX6_mostOf_24 rfl (lv_at hl 0 rfl) ?_
      refine lv_iload_n hx hb dX6_mostOf_25 rfl (lv_at hl 1 rfl) ?_
      refine callE (As := [.int f]) (rest := []) ⟨hx, hb, hml, hown, hts⟩ (c_X6_free Y f (by assumption)) (cwV 1 hts gX6_mostOf_X6_free rfl rfl rfl (by decide +kernel) ⟨Nat.le_of_ble_eq_true rfl, Nat.le_of_ble_eq_true rfl⟩) hK hN hP 0 rfl rfl rfl hl.1 rfl (Nat.le_of_ble_eq_true rfl) dX6_mostOf_26 ⟨Nat.zero_le _, Nat.zero_le _⟩ ?_
      refine lv_goto (tgt := 37) hx hb dX6_mostOf_29 (by decide) ?_
      refine lv_istore_n (lv' := [(3, .int (fr (Y 0) f)), (0, .ref (am 0)), (1, .int f), (2, .int t)]) hx hb dX6_mostOf_37 rfl hl (by decide) rfl (fun ls hl => ?_)
      refine lv_iload_n hx hb dX6_mostOf_38 rfl (lv_at hl 0 rfl) ?_
      refine lv_if_ge (tgt := 46) hx hb dX6_mostOf_39 (by decide) (fun c_39 => ?_) (fun c_39 => ?_)
      · refine lv_iload_n hx hb dX6_mostOf_46 rfl (lv_at hl 0 rfl) ?_
        refine lv_ldc (v := 100000) hx hb hown (hts (.constant RX6 42 100000) (by decide +kernel)) dX6_mostOf_47 ?_
        refine lv_icmp_ge (tgt := 56) hx hb dX6_mostOf_49 (by decide) (fun c_49 => ?_) (fun c_49 => ?_)
        · refine lv_ldc (v := 100000) hx hb hown (hts (.constant RX6 42 100000) (by decide +kernel)) dX6_mostOf_56 ?_
          exact retE hx hb hr hlocks dX6_mostOf_58 (by rw [mov_1 c_3 _ _ (free_fr hp) rfl]; (first | rw [min_a c_21] | rw [min_b c_21]); first | exact (mx_neg c_39).symm | exact (mx_big c_49).symm | exact (mx_mid c_39 c_49).symm)
        · refine lv_iload_n hx hb dX6_mostOf_52 rfl (lv_at hl 0 rfl) ?_
          refine lv_goto (tgt := 58) hx hb dX6_mostOf_53 (by decide) ?_
          exact retE hx hb hr hlocks dX6_mostOf_58 (by rw [mov_1 c_3 _ _ (free_fr hp) rfl]; (first | rw [min_a c_21] | rw [min_b c_21]); first | exact (mx_neg c_39).symm | exact (mx_big c_49).symm | exact (mx_mid c_39 c_49).symm)
      · refine lv_iconst (v := 0) hx hb dX6_mostOf_42 (by decide) ?_
        refine lv_goto (tgt := 58) hx hb dX6_mostOf_43 (by decide) ?_
        exact retE hx hb hr hlocks dX6_mostOf_58 (by rw [mov_1 c_3 _ _ (free_fr hp) rfl]; (first | rw [min_a c_21] | rw [min_b c_21]); first | exact (mx_neg c_39).symm | exact (mx_big c_49).symm | exact (mx_mid c_39 c_49).symm)
  · refine lv_if_ne (tgt := 11) hx hb dX6_mostOf_6 (by decide) (fun h9 => absurd (by decide) h9) (fun _ => ?_)
    refine lv_iconst (v := 0) hx hb dX6_mostOf_9 (by decide) ?_
    exact retE hx hb hr hlocks dX6_mostOf_10 (ci_f c_3).symm
set_option maxHeartbeats 4000000 in
set_option maxRecDepth 100000 in
theorem c_X6_mostFrom {l : Launch} {D : va_G} {cI cR : ClassId} {am : Nat → Nat} (Y : St) {K : Int} (hok : Ok K (Y 0)) (f : Int32) (t : Int32) : RoE l D cI cR (wM cI am Y) yX6_mostFrom wsX6_mostFrom ({ frames := 5, cells := 0, slots := 0, locals := 111 } : Room) [.ref (am 0), .int f, .int t] (v_most (Y 0) f t) := by
  refine OfW (cc := cX6_mostFrom) (maxL := 3) (ret := (some .int)) (by decide +kernel) rfl (Nat.le_of_ble_eq_true rfl) (fun p e s m below meth c hx hb hr hts hown hlocks hml hnm hP hK hN ls hl => ?_)
  have hl : lv_has ls 3 [(0, .ref (am 0)), (1, .int f), (2, .int t)] := hl
  refine lv_aload_n hx hb dX6_mostFrom_0 rfl (lv_at hl 0 rfl) ?_
  refine lv_iload_n hx hb dX6_mostFrom_1 rfl (lv_at hl 1 rfl) ?_
  refine lv_iload_n hx hb dX6_mostFrom_2 rfl (lv_at hl 2 rfl) ?_
  refine callB (As := [.int f, .int t]) (rest := []) ⟨hx, hb, hml, hown, hts⟩ (c_X6_areTwo Y hok f t) (cwV 2 hts gX6_mostFrom_X6_areTwo rfl rfl rfl (by decide +kernel) ⟨Nat.le_of_ble_eq_true rfl, Nat.le_of_ble_eq_true rfl⟩) hK hN hP 0 rfl rfl rfl hl.1 rfl (Nat.le_of_ble_eq_true rfl) dX6_mostFrom_3 ⟨Nat.zero_le _, Nat.zero_le _⟩ (fun c_3 => ?_) (fun c_3 => ?_)
  · have hp := c_3.1
    have hq := c_3.2.1
    have hne := c_3.2.2
    refine lv_if_eq (tgt := 18) hx hb dX6_mostFrom_6 (by decide) (fun h9 => absurd h9 (by decide)) (fun _ => ?_)
    refine lv_aload_n hx hb dX6_mostFrom_9 rfl (lv_at hl 0 rfl) ?_
    refine lv_iload_n hx hb dX6_mostFrom_10 rfl (lv_at hl 1 rfl) ?_
    refine lv_iload_n hx hb dX6_mostFrom_11 rfl (lv_at hl 2 rfl) ?_
    refine callE (As := [.int f, .int t]) (rest := []) ⟨hx, hb, hml, hown, hts⟩ (c_X6_mostOf Y hok f t (by assumption) (by assumption) (by assumption)) (cwV 2 hts gX6_mostFrom_X6_mostOf rfl rfl rfl (by decide +kernel) ⟨Nat.le_of_ble_eq_true rfl, Nat.le_of_ble_eq_true rfl⟩) hK hN hP 0 rfl rfl rfl hl.1 rfl (Nat.le_of_ble_eq_true rfl) dX6_mostFrom_12 ⟨Nat.zero_le _, Nat.zero_le _⟩ ?_
    refine lv_goto (tgt := 19) hx hb dX6_mostFrom_15 (by decide) ?_
    exact retE hx hb hr hlocks dX6_mostFrom_19 (ci_t c_3).symm
  · refine lv_if_eq (tgt := 18) hx hb dX6_mostFrom_6 (by decide) (fun _ => ?_) (fun h9 => absurd (by decide) h9)
    refine lv_iconst (v := (-1)) hx hb dX6_mostFrom_18 (by decide) ?_
    exact retE hx hb hr hlocks dX6_mostFrom_19 (ci_f c_3).symm
set_option maxHeartbeats 4000000 in
set_option maxRecDepth 100000 in
theorem c_X6_isRicher {l : Launch} {D : va_G} {cI cR : ClassId} {am : Nat → Nat} (Y : St) {K : Int} (hok : Ok K (Y 0)) (h : Int32) (k : Int32) (hp : p_has (Y 0) h) (hq : p_has (Y 0) k) : RoB l D cI cR (wM cI am Y) yX6_isRicher wsX6_isRicher ({ frames := 2, cells := 0, slots := 0, locals := 42 } : Room) [.ref (am 0), .int h, .int k] (p_rich (Y 0) h k) := by
  refine OfW (cc := cX6_isRicher) (maxL := 5) (ret := (some .boolean)) (by decide +kernel) rfl (Nat.le_of_ble_eq_true rfl) (fun p e s m below meth c hx hb hr hts hown hlocks hml hnm hP hK hN ls hl => ?_)
  have hl : lv_has ls 5 [(0, .ref (am 0)), (1, .int h), (2, .int k)] := hl
  have lk_7 := hts (.fieldLink RX6 7 "HeadBudgetsModel" "row" "[I") (by decide +kernel)
  have hi_X6 : ∀ w ∈ wsX60, w ∈ wsX6_isRicher := by decide +kernel
  have hh1 := hin_has hp
  have hh2 := hin_has hq
  refine lv_aload_n hx hb dX6_isRicher_0 rfl (lv_at hl 0 rfl) ?_
  refine lv_iload_n hx hb dX6_isRicher_1 rfl (lv_at hl 1 rfl) ?_
  refine callE (As := [.int h]) (rest := []) ⟨hx, hb, hml, hown, hts⟩ (c_X6_free Y h (by assumption)) (cwV 1 hts gX6_isRicher_X6_free rfl rfl rfl (by decide +kernel) ⟨Nat.le_of_ble_eq_true rfl, Nat.le_of_ble_eq_true rfl⟩) hK hN hP 0 rfl rfl rfl hl.1 rfl (Nat.le_of_ble_eq_true rfl) dX6_isRicher_2 ⟨Nat.zero_le _, Nat.zero_le _⟩ ?_
  refine lv_aload_n hx hb dX6_isRicher_5 rfl (lv_at hl 0 rfl) ?_
  refine lv_iload_n hx hb dX6_isRicher_6 rfl (lv_at hl 2 rfl) ?_
  refine callE (As := [.int k]) (rest := [.int (fr (Y 0) h)]) ⟨hx, hb, hml, hown, hts⟩ (c_X6_free Y k (by assumption)) (cwV 1 hts gX6_isRicher_X6_free rfl rfl rfl (by decide +kernel) ⟨Nat.le_of_ble_eq_true rfl, Nat.le_of_ble_eq_true rfl⟩) hK hN hP 0 rfl rfl rfl hl.1 rfl (Nat.le_of_ble_eq_true rfl) dX6_isRicher_7 ⟨Nat.zero_le _, Nat.zero_le _⟩ ?_
  refine lv_isub hx hb dX6_isRicher_10 ?_
  refine lv_istore_n (lv' := [(3, .int ((fr (Y 0) h) - (fr (Y 0) k))), (0, .ref (am 0)), (1, .int h), (2, .int k)]) hx hb dX6_isRicher_11 rfl hl (by decide) rfl (fun ls hl => ?_)
  refine lv_aload_n hx hb dX6_isRicher_12 rfl (lv_at hl 1 rfl) ?_
  refine xget (C := RX6) (T := TX6) (N := 10) (ci := 6) (w := .ref (am 1)) hx hb hts hi_X6 hown hK hP 0 rfl rfl 0 (by decide) lk_7 rfl dX6_isRicher_13 ?_
  refine lv_iload_n hx hb dX6_isRicher_16 rfl (lv_at hl 2 rfl) ?_
  refine lv_iconst (v := 1) hx hb dX6_isRicher_17 (by decide) ?_
  refine callSE (As := [.int h, .int 1]) (rest := [.ref (am 1)]) ⟨hx, hb, hml, hown, hts⟩ (c_X6_of h 1) (va_cwS 2 hts gX6_isRicher_X6_of rfl rfl rfl (by decide +kernel) ⟨Nat.le_of_ble_eq_true rfl, Nat.le_of_ble_eq_true rfl⟩) hK hN rfl hl.1 rfl (Nat.le_of_ble_eq_true rfl) dX6_isRicher_18 ⟨Nat.zero_le _, Nat.zero_le _⟩ ?_
  refine xald (x := qv (Y 0) 1 h) hx hb hK hP 1 rfl (oH_in (n := 1) (by assumption) (by decide)) (row_oH (n := 1) (by assumption) (by decide)) dX6_isRicher_21 ?_
  refine lv_aload_n hx hb dX6_isRicher_22 rfl (lv_at hl 1 rfl) ?_
  refine xget (C := RX6) (T := TX6) (N := 10) (ci := 6) (w := .ref (am 1)) hx hb hts hi_X6 hown hK hP 0 rfl rfl 0 (by decide) lk_7 rfl dX6_isRicher_23 ?_
  refine lv_iload_n hx hb dX6_isRicher_26 rfl (lv_at hl 3 rfl) ?_
  refine lv_iconst (v := 1) hx hb dX6_isRicher_27 (by decide) ?_
  refine callSE (As := [.int k, .int 1]) (rest := [.ref (am 1), .int (qv (Y 0) 1 h)]) ⟨hx, hb, hml, hown, hts⟩ (c_X6_of k 1) (va_cwS 2 hts gX6_isRicher_X6_of rfl rfl rfl (by decide +kernel) ⟨Nat.le_of_ble_eq_true rfl, Nat.le_of_ble_eq_true rfl⟩) hK hN rfl hl.1 rfl (Nat.le_of_ble_eq_true rfl) dX6_isRicher_28 ⟨Nat.zero_le _, Nat.zero_le _⟩ ?_
  refine xald (x := qv (Y 0) 1 k) hx hb hK hP 1 rfl (oH_in (n := 1) (by assumption) (by decide)) (row_oH (n := 1) (by assumption) (by decide)) dX6_isRicher_31 ?_
  refine lv_isub hx hb dX6_isRicher_32 ?_
  refine lv_istore (lv' := [(4, .int ((qv (Y 0) 1 h) - (qv (Y 0) 1 k))), (3, .int ((fr (Y 0) h) - (fr (Y 0) k))), (0, .ref (am 0)), (1, .int h), (2, .int k)]) hx hb dX6_isRicher_33 hl (by decide) rfl (fun ls hl => ?_)
  refine lv_iload_n hx hb dX6_isRicher_35 rfl (lv_at hl 1 rfl) ?_
  refine lv_if_gt (tgt := 58) hx hb dX6_isRicher_36 (by decide) (fun c_36 => ?_) (fun c_36 => ?_)
  · refine lv_iconst (v := 1) hx hb dX6_isRicher_58 (by decide) ?_
    refine lv_goto (tgt := 63) hx hb dX6_isRicher_59 (by decide) ?_
    exact retB1 hx hb hr hlocks dX6_isRicher_63 ((rich_iff hok hp hq).mpr (by first | exact Or.inl (Int32.not_le.mp c_36) | exact Or.inl c_36 | exact Or.inr ⟨c_40, Or.inl c_45⟩ | exact Or.inr ⟨c_40, Or.inr ⟨c_50, Int32.not_le.mp c_55⟩⟩))
  · refine lv_iload_n hx hb dX6_isRicher_39 rfl (lv_at hl 1 rfl) ?_
    refine lv_if_ne (tgt := 62) hx hb dX6_isRicher_40 (by decide) (fun c_40 => ?_) (fun c_40 => ?_)
    · refine lv_iconst (v := 0) hx hb dX6_isRicher_62 (by decide) ?_
      exact retB0 hx hb hr hlocks dX6_isRicher_63 (fun z => by first | exact ((rich_iff hok hp hq).mp z).elim c_36 (fun z => c_40 z.1) | exact ((rich_iff hok hp hq).mp z).elim c_36 (fun z => z.2.elim c_45 (fun z => c_50 z.1)) | exact ((rich_iff hok hp hq).mp z).elim c_36 (fun z => z.2.elim c_45 (fun z => Int32.not_le.mpr z.2 c_55)))
    · refine lv_iload hx hb dX6_isRicher_43 (lv_at hl 0 rfl) ?_
      refine lv_if_gt (tgt := 58) hx hb dX6_isRicher_45 (by decide) (fun c_45 => ?_) (fun c_45 => ?_)
      · refine lv_iconst (v := 1) hx hb dX6_isRicher_58 (by decide) ?_
        refine lv_goto (tgt := 63) hx hb dX6_isRicher_59 (by decide) ?_
        exact retB1 hx hb hr hlocks dX6_isRicher_63 ((rich_iff hok hp hq).mpr (by first | exact Or.inl (Int32.not_le.mp c_36) | exact Or.inl c_36 | exact Or.inr ⟨c_40, Or.inl c_45⟩ | exact Or.inr ⟨c_40, Or.inr ⟨c_50, Int32.not_le.mp c_55⟩⟩))
      · refine lv_iload hx hb dX6_isRicher_48 (lv_at hl 0 rfl) ?_
        refine lv_if_ne (tgt := 62) hx hb dX6_isRicher_50 (by decide) (fun c_50 => ?_) (fun c_50 => ?_)
        · refine lv_iconst (v := 0) hx hb dX6_isRicher_62 (by decide) ?_
          exact retB0 hx hb hr hlocks dX6_isRicher_63 (fun z => by first | exact ((rich_iff hok hp hq).mp z).elim c_36 (fun z => c_40 z.1) | exact ((rich_iff hok hp hq).mp z).elim c_36 (fun z => z.2.elim c_45 (fun z => c_50 z.1)) | exact ((rich_iff hok hp hq).mp z).elim c_36 (fun z => z.2.elim c_45 (fun z => Int32.not_le.mpr z.2 c_55)))
        · refine lv_iload_n hx hb dX6_isRicher_53 rfl (lv_at hl 3 rfl) ?_
          refine lv_iload_n hx hb dX6_isRicher_54 rfl (lv_at hl 4 rfl) ?_
          refine lv_icmp_ge (tgt := 62) hx hb dX6_isRicher_55 (by decide) (fun c_55 => ?_) (fun c_55 => ?_)
          · refine lv_iconst (v := 0) hx hb dX6_isRicher_62 (by decide) ?_
            exact retB0 hx hb hr hlocks dX6_isRicher_63 (fun z => by first | exact ((rich_iff hok hp hq).mp z).elim c_36 (fun z => c_40 z.1) | exact ((rich_iff hok hp hq).mp z).elim c_36 (fun z => z.2.elim c_45 (fun z => c_50 z.1)) | exact ((rich_iff hok hp hq).mp z).elim c_36 (fun z => z.2.elim c_45 (fun z => Int32.not_le.mpr z.2 c_55)))
          · refine lv_iconst (v := 1) hx hb dX6_isRicher_58 (by decide) ?_
            refine lv_goto (tgt := 63) hx hb dX6_isRicher_59 (by decide) ?_
            exact retB1 hx hb hr hlocks dX6_isRicher_63 ((rich_iff hok hp hq).mpr (by first | exact Or.inl (Int32.not_le.mp c_36) | exact Or.inl c_36 | exact Or.inr ⟨c_40, Or.inl c_45⟩ | exact Or.inr ⟨c_40, Or.inr ⟨c_50, Int32.not_le.mp c_55⟩⟩))
set_option maxHeartbeats 4000000 in
set_option maxRecDepth 100000 in
theorem c_X6_bestGiver {l : Launch} {D : va_G} {cI cR : ClassId} {am : Nat → Nat} (Y : St) {K : Int} (hok : Ok K (Y 0)) (t : Int32) : RoE l D cI cR (wM cI am Y) yX6_bestGiver wsX6_bestGiver ({ frames := 5, cells := 0, slots := 0, locals := 111 } : Room) [.ref (am 0), .int t] (v_giver (Y 0) t) := by
  refine OfW (cc := cX6_bestGiver) (maxL := 7) (ret := (some .int)) (by decide +kernel) rfl (Nat.le_of_ble_eq_true rfl) (fun p e s m below meth c hx hb hr hts hown hlocks hml hnm hP hK hN ls hl => ?_)
  have hl : lv_has ls 7 [(0, .ref (am 0)), (1, .int t)] := hl
  have lk_7 := hts (.fieldLink RX6 7 "HeadBudgetsModel" "row" "[I") (by decide +kernel)
  have hi_X6 : ∀ w ∈ wsX60, w ∈ wsX6_bestGiver := by decide +kernel
  refine lv_aload_n hx hb dX6_bestGiver_0 rfl (lv_at hl 0 rfl) ?_
  refine lv_iload_n hx hb dX6_bestGiver_1 rfl (lv_at hl 1 rfl) ?_
  refine callB (As := [.int t]) (rest := []) ⟨hx, hb, hml, hown, hts⟩ (c_X6_isHead Y hok t) (cwV 1 hts gX6_bestGiver_X6_isHead rfl rfl rfl (by decide +kernel) ⟨Nat.le_of_ble_eq_true rfl, Nat.le_of_ble_eq_true rfl⟩) hK hN hP 0 rfl rfl rfl hl.1 rfl (Nat.le_of_ble_eq_true rfl) dX6_bestGiver_2 ⟨Nat.zero_le _, Nat.zero_le _⟩ (fun c_2 => ?_) (fun c_2 => ?_)
  · refine lv_if_ne (tgt := 10) hx hb dX6_bestGiver_5 (by decide) (fun _ => ?_) (fun h9 => absurd h9 (by decide))
    refine lv_bipush (v := (-9)) hx hb dX6_bestGiver_10 (by decide) ?_
    refine lv_istore_n (lv' := [(2, .int ((-9))), (0, .ref (am 0)), (1, .int t)]) hx hb dX6_bestGiver_12 rfl hl (by decide) rfl (fun ls hl => ?_)
    refine lv_iconst (v := 0) hx hb dX6_bestGiver_13 (by decide) ?_
    refine lv_istore_n (lv' := [(3, .int 0), (2, .int ((-9))), (0, .ref (am 0)), (1, .int t)]) hx hb dX6_bestGiver_14 rfl hl (by decide) rfl (fun ls hl => ?_)
    refine lv_iconst (v := 0) hx hb dX6_bestGiver_15 (by decide) ?_
    refine lv_istore (lv' := [(4, .int 0), (3, .int 0), (2, .int ((-9))), (0, .ref (am 0)), (1, .int t)]) hx hb dX6_bestGiver_16 hl (by decide) rfl (fun ls hl => ?_)
    have hloop_18 : ∀ (n_18 : Nat) (k : Nat) (xb xm xk : Int32), k ≤ md (Y 0) → md (Y 0) < k + n_18 → xk = nI k → p_best (Y 0) t k = (xb, xm) → ∀ ls : Array Slot, lv_has ls 7 [(0, .ref (am 0)), (1, .int t), (2, .int xb), (3, .int xm), (4, .int xk)] → W p l e ({ frames := 5, cells := 0, slots := 0, locals := 111 } : Room) s m ([.ref (am 0), .int t]).toArray below meth c s.heap [] 0 0 (MQ below (vp_Si (fun r => r = v_giver (Y 0) t)) ([.ref (am 0), .int t]).toArray s 0 0 (fun _ => False)) (F0 m 18 ls []) := by
      intro n_18
      induction n_18 with
      | zero =>
        intro k xb xm xk hk hn ek ea ls hl
        exfalso; omega
      | succ n_18 ih_18 =>
        intro k xb xm xk hk hn ek ea ls hl
        refine lv_iload hx hb dX6_bestGiver_18 (lv_at hl 4 rfl) ?_
        refine lv_aload_n hx hb dX6_bestGiver_20 rfl (lv_at hl 0 rfl) ?_
        refine xget (C := RX6) (T := TX6) (N := 10) (ci := 6) (w := .ref (am 1)) hx hb hts hi_X6 hown hK hP 0 rfl rfl 0 (by decide) lk_7 rfl dX6_bestGiver_21 ?_
        refine lv_iconst (v := 1) hx hb dX6_bestGiver_24 (by decide) ?_
        refine xald (x := Y 0 14 1) hx hb hK hP 1 rfl (vp_in_lit (by decide)) (row_n _ (o := 1) (by decide)) dX6_bestGiver_25 ?_
        refine lv_icmp_ge (tgt := 126) hx hb dX6_bestGiver_26 (by decide) (fun c_26 => ?_) (fun c_26 => ?_)
        · have hk2 : k = md (Y 0) := md_ge hok hk (by rw [← ek]; exact c_26)
          subst hk2
          refine lv_iload_n hx hb dX6_bestGiver_126 rfl (lv_at hl 2 rfl) ?_
          exact retE hx hb hr hlocks dX6_bestGiver_127 (by unfold v_giver; rw [ci_t c_2, best_cut hok, ea])
        · have hlt := md_lt hok hk (by rw [← ek]; exact c_26)
          have hpk : p_has (Y 0) xk := by rw [ek]; exact has_nI hok hlt.1
          have hhk := hin_has hpk
          refine lv_iload hx hb dX6_bestGiver_29 (lv_at hl 4 rfl) ?_
          refine lv_iload_n hx hb dX6_bestGiver_31 rfl (lv_at hl 1 rfl) ?_
          refine lv_icmp_ne (tgt := 39) hx hb dX6_bestGiver_32 (by decide) (fun c_32 => ?_) (fun c_32 => ?_)
          · have hne : xk ≠ t := c_32
            refine lv_aload_n hx hb dX6_bestGiver_39 rfl (lv_at hl 0 rfl) ?_
            refine lv_iload hx hb dX6_bestGiver_40 (lv_at hl 4 rfl) ?_
            refine lv_iload_n hx hb dX6_bestGiver_42 rfl (lv_at hl 1 rfl) ?_
            refine callE (As := [.int xk, .int t]) (rest := []) ⟨hx, hb, hml, hown, hts⟩ (c_X6_mostOf Y hok xk t (by assumption) (by assumption) (by assumption)) (cwV 2 hts gX6_bestGiver_X6_mostOf rfl rfl rfl (by decide +kernel) ⟨Nat.le_of_ble_eq_true rfl, Nat.le_of_ble_eq_true rfl⟩) hK hN hP 0 rfl rfl rfl hl.1 rfl (Nat.le_of_ble_eq_true rfl) dX6_bestGiver_43 ⟨Nat.zero_le _, Nat.zero_le _⟩ ?_
            refine lv_istore (lv' := [(5, .int (p_mov (Y 0) xk t)), (0, .ref (am 0)), (1, .int t), (2, .int xb), (3, .int xm), (4, .int xk)]) hx hb dX6_bestGiver_46 hl (by decide) rfl (fun ls hl => ?_)
            refine lv_iload hx hb dX6_bestGiver_48 (lv_at hl 0 rfl) ?_
            refine lv_iload_n hx hb dX6_bestGiver_50 rfl (lv_at hl 4 rfl) ?_
            refine lv_icmp_gt (tgt := 89) hx hb dX6_bestGiver_51 (by decide) (fun c_51 => ?_) (fun c_51 => ?_)
            · refine lv_iconst (v := 1) hx hb dX6_bestGiver_89 (by decide) ?_
              refine lv_goto (tgt := 94) hx hb dX6_bestGiver_90 (by decide) ?_
              refine lv_istore (lv' := [(6, .int 1), (5, .int (p_mov (Y 0) xk t)), (0, .ref (am 0)), (1, .int t), (2, .int xb), (3, .int xm), (4, .int xk)]) hx hb dX6_bestGiver_94 hl (by decide) rfl (fun ls hl => ?_)
              refine lv_iload hx hb dX6_bestGiver_96 (lv_at hl 0 rfl) ?_
              refine lv_if_eq (tgt := 106) hx hb dX6_bestGiver_98 (by decide) (fun h9 => absurd h9 (by decide)) (fun _ => ?_)
              refine lv_iload hx hb dX6_bestGiver_101 (lv_at hl 6 rfl) ?_
              refine lv_goto (tgt := 107) hx hb dX6_bestGiver_103 (by decide) ?_
              refine lv_istore_n (lv' := [(2, .int xk), (6, .int 1), (5, .int (p_mov (Y 0) xk t)), (0, .ref (am 0)), (1, .int t), (3, .int xm), (4, .int xk)]) hx hb dX6_bestGiver_107 rfl hl (by decide) rfl (fun ls hl => ?_)
              refine lv_iload hx hb dX6_bestGiver_108 (lv_at hl 1 rfl) ?_
              refine lv_if_eq (tgt := 118) hx hb dX6_bestGiver_110 (by decide) (fun h9 => absurd h9 (by decide)) (fun _ => ?_)
              refine lv_iload hx hb dX6_bestGiver_113 (lv_at hl 2 rfl) ?_
              refine lv_goto (tgt := 119) hx hb dX6_bestGiver_115 (by decide) ?_
              refine lv_istore_n (lv' := [(3, .int (p_mov (Y 0) xk t)), (2, .int xk), (6, .int 1), (5, .int (p_mov (Y 0) xk t)), (0, .ref (am 0)), (1, .int t), (4, .int xk)]) hx hb dX6_bestGiver_119 rfl hl (by decide) rfl (fun ls hl => ?_)
              refine lv_iinc (v := xk + 1) (lv' := [(4, .int (xk + 1)), (3, .int (p_mov (Y 0) xk t)), (2, .int xk), (6, .int 1), (5, .int (p_mov (Y 0) xk t)), (0, .ref (am 0)), (1, .int t)]) hx hb dX6_bestGiver_120 hl (k := 6) rfl rfl (by decide) rfl (fun ls hl => ?_)
              refine lv_goto (tgt := 18) hx hb dX6_bestGiver_123 (by decide) ?_
              have hby : p_mov (Y 0) xk t = p_mov (Y 0) xk t := by rfl
              have hnx : p_best (Y 0) t (k + 1) = (xk, p_mov (Y 0) xk t) := by
                rw [← hby]
                refine best_yes ea ek ?_
                rw [hby]
                first | exact Or.inl c_51 | exact Or.inr ⟨c_62, hb9, Int32.not_le.mp c_86⟩
              exact ih_18  (k + 1) _ _ _ (by omega) (by omega) (by rw [ek]; exact nI_1 k) hnx _ (lv_sub hl [5, 6, 2, 1, 0] rfl)
            · refine lv_iload hx hb dX6_bestGiver_54 (lv_at hl 0 rfl) ?_
              refine lv_if_le (tgt := 93) hx hb dX6_bestGiver_56 (by decide) (fun c_56 => ?_) (fun c_56 => ?_)
              · refine lv_iconst (v := 0) hx hb dX6_bestGiver_93 (by decide) ?_
                refine lv_istore (lv' := [(6, .int 0), (5, .int (p_mov (Y 0) xk t)), (0, .ref (am 0)), (1, .int t), (2, .int xb), (3, .int xm), (4, .int xk)]) hx hb dX6_bestGiver_94 hl (by decide) rfl (fun ls hl => ?_)
                refine lv_iload hx hb dX6_bestGiver_96 (lv_at hl 0 rfl) ?_
                refine lv_if_eq (tgt := 106) hx hb dX6_bestGiver_98 (by decide) (fun _ => ?_) (fun h9 => absurd (by decide) h9)
                refine lv_iload_n hx hb dX6_bestGiver_106 rfl (lv_at hl 4 rfl) ?_
                refine lv_istore_n (lv' := [(2, .int xb), (6, .int 0), (5, .int (p_mov (Y 0) xk t)), (0, .ref (am 0)), (1, .int t), (3, .int xm), (4, .int xk)]) hx hb dX6_bestGiver_107 rfl hl (by decide) rfl (fun ls hl => ?_)
                refine lv_iload hx hb dX6_bestGiver_108 (lv_at hl 1 rfl) ?_
                refine lv_if_eq (tgt := 118) hx hb dX6_bestGiver_110 (by decide) (fun _ => ?_) (fun h9 => absurd (by decide) h9)
                refine lv_iload_n hx hb dX6_bestGiver_118 rfl (lv_at hl 5 rfl) ?_
                refine lv_istore_n (lv' := [(3, .int xm), (2, .int xb), (6, .int 0), (5, .int (p_mov (Y 0) xk t)), (0, .ref (am 0)), (1, .int t), (4, .int xk)]) hx hb dX6_bestGiver_119 rfl hl (by decide) rfl (fun ls hl => ?_)
                refine lv_iinc (v := xk + 1) (lv' := [(4, .int (xk + 1)), (3, .int xm), (2, .int xb), (6, .int 0), (5, .int (p_mov (Y 0) xk t)), (0, .ref (am 0)), (1, .int t)]) hx hb dX6_bestGiver_120 hl (k := 6) rfl rfl (by decide) rfl (fun ls hl => ?_)
                refine lv_goto (tgt := 18) hx hb dX6_bestGiver_123 (by decide) ?_
                have hby : p_mov (Y 0) xk t = p_mov (Y 0) xk t := by rfl
                have hnx : p_best (Y 0) t (k + 1) = (xb, xm) := by
                  refine best_no ea ek ?_
                  rw [hby]
                  first | exact fun z => z.elim c_51 (fun z => c_62 z.1) | exact fun z => z.elim c_51 (fun z => Int32.not_le.mpr z.2.2 c_86) | exact fun z => z.elim c_51 (fun z => best_pos ea z.2.1 (by rw [← z.1]; exact c_56)) | exact fun z => z.elim c_51 (fun z => best_pos ea z.2.1 (by rw [← z.1]; exact Int32.le_refl _))
                exact ih_18  (k + 1) _ _ _ (by omega) (by omega) (by rw [ek]; exact nI_1 k) hnx _ (lv_sub hl [5, 6, 2, 1, 0] rfl)
              · refine lv_iload hx hb dX6_bestGiver_59 (lv_at hl 0 rfl) ?_
                refine lv_iload_n hx hb dX6_bestGiver_61 rfl (lv_at hl 4 rfl) ?_
                refine lv_icmp_ne (tgt := 93) hx hb dX6_bestGiver_62 (by decide) (fun c_62 => ?_) (fun c_62 => ?_)
                · refine lv_iconst (v := 0) hx hb dX6_bestGiver_93 (by decide) ?_
                  refine lv_istore (lv' := [(6, .int 0), (5, .int (p_mov (Y 0) xk t)), (0, .ref (am 0)), (1, .int t), (2, .int xb), (3, .int xm), (4, .int xk)]) hx hb dX6_bestGiver_94 hl (by decide) rfl (fun ls hl => ?_)
                  refine lv_iload hx hb dX6_bestGiver_96 (lv_at hl 0 rfl) ?_
                  refine lv_if_eq (tgt := 106) hx hb dX6_bestGiver_98 (by decide) (fun _ => ?_) (fun h9 => absurd (by decide) h9)
                  refine lv_iload_n hx hb dX6_bestGiver_106 rfl (lv_at hl 4 rfl) ?_
                  refine lv_istore_n (lv' := [(2, .int xb), (6, .int 0), (5, .int (p_mov (Y 0) xk t)), (0, .ref (am 0)), (1, .int t), (3, .int xm), (4, .int xk)]) hx hb dX6_bestGiver_107 rfl hl (by decide) rfl (fun ls hl => ?_)
                  refine lv_iload hx hb dX6_bestGiver_108 (lv_at hl 1 rfl) ?_
                  refine lv_if_eq (tgt := 118) hx hb dX6_bestGiver_110 (by decide) (fun _ => ?_) (fun h9 => absurd (by decide) h9)
                  refine lv_iload_n hx hb dX6_bestGiver_118 rfl (lv_at hl 5 rfl) ?_
                  refine lv_istore_n (lv' := [(3, .int xm), (2, .int xb), (6, .int 0), (5, .int (p_mov (Y 0) xk t)), (0, .ref (am 0)), (1, .int t), (4, .int xk)]) hx hb dX6_bestGiver_119 rfl hl (by decide) rfl (fun ls hl => ?_)
                  refine lv_iinc (v := xk + 1) (lv' := [(4, .int (xk + 1)), (3, .int xm), (2, .int xb), (6, .int 0), (5, .int (p_mov (Y 0) xk t)), (0, .ref (am 0)), (1, .int t)]) hx hb dX6_bestGiver_120 hl (k := 6) rfl rfl (by decide) rfl (fun ls hl => ?_)
                  refine lv_goto (tgt := 18) hx hb dX6_bestGiver_123 (by decide) ?_
                  have hby : p_mov (Y 0) xk t = p_mov (Y 0) xk t := by rfl
                  have hnx : p_best (Y 0) t (k + 1) = (xb, xm) := by
                    refine best_no ea ek ?_
                    rw [hby]
                    first | exact fun z => z.elim c_51 (fun z => c_62 z.1) | exact fun z => z.elim c_51 (fun z => Int32.not_le.mpr z.2.2 c_86) | exact fun z => z.elim c_51 (fun z => best_pos ea z.2.1 (by rw [← z.1]; exact c_56)) | exact fun z => z.elim c_51 (fun z => best_pos ea z.2.1 (by rw [← z.1]; exact Int32.le_refl _))
                  exact ih_18  (k + 1) _ _ _ (by omega) (by omega) (by rw [ek]; exact nI_1 k) hnx _ (lv_sub hl [5, 6, 2, 1, 0] rfl)
                · have hb9 := best_has ea c_56 c_62
                  have hhb := hin_has hb9
                  refine lv_aload_n hx hb dX6_bestGiver_65 rfl (lv_at hl 1 rfl) ?_
                  refine xget (C := RX6) (T := TX6) (N := 10) (ci := 6) (w := .ref (am 1)) hx hb hts hi_X6 hown hK hP 0 rfl rfl 0 (by decide) lk_7 rfl dX6_bestGiver_66 ?_
                  refine lv_iload hx hb dX6_bestGiver_69 (lv_at hl 5 rfl) ?_
                  refine lv_iconst (v := 1) hx hb dX6_bestGiver_71 (by decide) ?_
                  refine callSE (As := [.int xk, .int 1]) (rest := [.ref (am 1)]) ⟨hx, hb, hml, hown, hts⟩ (c_X6_of xk 1) (va_cwS 2 hts gX6_bestGiver_X6_of rfl rfl rfl (by decide +kernel) ⟨Nat.le_of_ble_eq_true rfl, Nat.le_of_ble_eq_true rfl⟩) hK hN rfl hl.1 rfl (Nat.le_of_ble_eq_true rfl) dX6_bestGiver_72 ⟨Nat.zero_le _, Nat.zero_le _⟩ ?_
                  refine xald (x := qv (Y 0) 1 xk) hx hb hK hP 1 rfl (oH_in (n := 1) (by assumption) (by decide)) (row_oH (n := 1) (by assumption) (by decide)) dX6_bestGiver_75 ?_
                  refine lv_aload_n hx hb dX6_bestGiver_76 rfl (lv_at hl 1 rfl) ?_
                  refine xget (C := RX6) (T := TX6) (N := 10) (ci := 6) (w := .ref (am 1)) hx hb hts hi_X6 hown hK hP 0 rfl rfl 0 (by decide) lk_7 rfl dX6_bestGiver_77 ?_
                  refine lv_iload_n hx hb dX6_bestGiver_80 rfl (lv_at hl 3 rfl) ?_
                  refine lv_iconst (v := 1) hx hb dX6_bestGiver_81 (by decide) ?_
                  refine callSE (As := [.int xb, .int 1]) (rest := [.ref (am 1), .int (qv (Y 0) 1 xk)]) ⟨hx, hb, hml, hown, hts⟩ (c_X6_of xb 1) (va_cwS 2 hts gX6_bestGiver_X6_of rfl rfl rfl (by decide +kernel) ⟨Nat.le_of_ble_eq_true rfl, Nat.le_of_ble_eq_true rfl⟩) hK hN rfl hl.1 rfl (Nat.le_of_ble_eq_true rfl) dX6_bestGiver_82 ⟨Nat.zero_le _, Nat.zero_le _⟩ ?_
                  refine xald (x := qv (Y 0) 1 xb) hx hb hK hP 1 rfl (oH_in (n := 1) (by assumption) (by decide)) (row_oH (n := 1) (by assumption) (by decide)) dX6_bestGiver_85 ?_
                  refine lv_icmp_le (tgt := 93) hx hb dX6_bestGiver_86 (by decide) (fun c_86 => ?_) (fun c_86 => ?_)
                  · refine lv_iconst (v := 0) hx hb dX6_bestGiver_93 (by decide) ?_
                    refine lv_istore (lv' := [(6, .int 0), (5, .int (p_mov (Y 0) xk t)), (0, .ref (am 0)), (1, .int t), (2, .int xb), (3, .int xm), (4, .int xk)]) hx hb dX6_bestGiver_94 hl (by decide) rfl (fun ls hl => ?_)
                    refine lv_iload hx hb dX6_bestGiver_96 (lv_at hl 0 rfl) ?_
                    refine lv_if_eq (tgt := 106) hx hb dX6_bestGiver_98 (by decide) (fun _ => ?_) (fun h9 => absurd (by decide) h9)
                    refine lv_iload_n hx hb dX6_bestGiver_106 rfl (lv_at hl 4 rfl) ?_
                    refine lv_istore_n (lv' := [(2, .int xb), (6, .int 0), (5, .int (p_mov (Y 0) xk t)), (0, .ref (am 0)), (1, .int t), (3, .int xm), (4, .int xk)]) hx hb dX6_bestGiver_107 rfl hl (by decide) rfl (fun ls hl => ?_)
                    refine lv_iload hx hb dX6_bestGiver_108 (lv_at hl 1 rfl) ?_
                    refine lv_if_eq (tgt := 118) hx hb dX6_bestGiver_110 (by decide) (fun _ => ?_) (fun h9 => absurd (by decide) h9)
                    refine lv_iload_n hx hb dX6_bestGiver_118 rfl (lv_at hl 5 rfl) ?_
                    refine lv_istore_n (lv' := [(3, .int xm), (2, .int xb), (6, .int 0), (5, .int (p_mov (Y 0) xk t)), (0, .ref (am 0)), (1, .int t), (4, .int xk)]) hx hb dX6_bestGiver_119 rfl hl (by decide) rfl (fun ls hl => ?_)
                    refine lv_iinc (v := xk + 1) (lv' := [(4, .int (xk + 1)), (3, .int xm), (2, .int xb), (6, .int 0), (5, .int (p_mov (Y 0) xk t)), (0, .ref (am 0)), (1, .int t)]) hx hb dX6_bestGiver_120 hl (k := 6) rfl rfl (by decide) rfl (fun ls hl => ?_)
                    refine lv_goto (tgt := 18) hx hb dX6_bestGiver_123 (by decide) ?_
                    have hby : p_mov (Y 0) xk t = p_mov (Y 0) xk t := by rfl
                    have hnx : p_best (Y 0) t (k + 1) = (xb, xm) := by
                      refine best_no ea ek ?_
                      rw [hby]
                      first | exact fun z => z.elim c_51 (fun z => c_62 z.1) | exact fun z => z.elim c_51 (fun z => Int32.not_le.mpr z.2.2 c_86) | exact fun z => z.elim c_51 (fun z => best_pos ea z.2.1 (by rw [← z.1]; exact c_56)) | exact fun z => z.elim c_51 (fun z => best_pos ea z.2.1 (by rw [← z.1]; exact Int32.le_refl _))
                    exact ih_18  (k + 1) _ _ _ (by omega) (by omega) (by rw [ek]; exact nI_1 k) hnx _ (lv_sub hl [5, 6, 2, 1, 0] rfl)
                  · refine lv_iconst (v := 1) hx hb dX6_bestGiver_89 (by decide) ?_
                    refine lv_goto (tgt := 94) hx hb dX6_bestGiver_90 (by decide) ?_
                    refine lv_istore (lv' := [(6, .int 1), (5, .int (p_mov (Y 0) xk t)), (0, .ref (am 0)), (1, .int t), (2, .int xb), (3, .int xm), (4, .int xk)]) hx hb dX6_bestGiver_94 hl (by decide) rfl (fun ls hl => ?_)
                    refine lv_iload hx hb dX6_bestGiver_96 (lv_at hl 0 rfl) ?_
                    refine lv_if_eq (tgt := 106) hx hb dX6_bestGiver_98 (by decide) (fun h9 => absurd h9 (by decide)) (fun _ => ?_)
                    refine lv_iload hx hb dX6_bestGiver_101 (lv_at hl 6 rfl) ?_
                    refine lv_goto (tgt := 107) hx hb dX6_bestGiver_103 (by decide) ?_
                    refine lv_istore_n (lv' := [(2, .int xk), (6, .int 1), (5, .int (p_mov (Y 0) xk t)), (0, .ref (am 0)), (1, .int t), (3, .int xm), (4, .int xk)]) hx hb dX6_bestGiver_107 rfl hl (by decide) rfl (fun ls hl => ?_)
                    refine lv_iload hx hb dX6_bestGiver_108 (lv_at hl 1 rfl) ?_
                    refine lv_if_eq (tgt := 118) hx hb dX6_bestGiver_110 (by decide) (fun h9 => absurd h9 (by decide)) (fun _ => ?_)
                    refine lv_iload hx hb dX6_bestGiver_113 (lv_at hl 2 rfl) ?_
                    refine lv_goto (tgt := 119) hx hb dX6_bestGiver_115 (by decide) ?_
                    refine lv_istore_n (lv' := [(3, .int (p_mov (Y 0) xk t)), (2, .int xk), (6, .int 1), (5, .int (p_mov (Y 0) xk t)), (0, .ref (am 0)), (1, .int t), (4, .int xk)]) hx hb dX6_bestGiver_119 rfl hl (by decide) rfl (fun ls hl => ?_)
                    refine lv_iinc (v := xk + 1) (lv' := [(4, .int (xk + 1)), (3, .int (p_mov (Y 0) xk t)), (2, .int xk), (6, .int 1), (5, .int (p_mov (Y 0) xk t)), (0, .ref (am 0)), (1, .int t)]) hx hb dX6_bestGiver_120 hl (k := 6) rfl rfl (by decide) rfl (fun ls hl => ?_)
                    refine lv_goto (tgt := 18) hx hb dX6_bestGiver_123 (by decide) ?_
                    have hby : p_mov (Y 0) xk t = p_mov (Y 0) xk t := by rfl
                    have hnx : p_best (Y 0) t (k + 1) = (xk, p_mov (Y 0) xk t) := by
                      rw [← hby]
                      refine best_yes ea ek ?_
                      rw [hby]
                      first | exact Or.inl c_51 | exact Or.inr ⟨c_62, hb9, Int32.not_le.mp c_86⟩
                    exact ih_18  (k + 1) _ _ _ (by omega) (by omega) (by rw [ek]; exact nI_1 k) hnx _ (lv_sub hl [5, 6, 2, 1, 0] rfl)
          · refine lv_iconst (v := 0) hx hb dX6_bestGiver_35 (by decide) ?_
            refine lv_goto (tgt := 46) hx hb dX6_bestGiver_36 (by decide) ?_
            refine lv_istore (lv' := [(5, .int 0), (0, .ref (am 0)), (1, .int t), (2, .int xb), (3, .int xm), (4, .int xk)]) hx hb dX6_bestGiver_46 hl (by decide) rfl (fun ls hl => ?_)
            refine lv_iload hx hb dX6_bestGiver_48 (lv_at hl 0 rfl) ?_
            refine lv_iload_n hx hb dX6_bestGiver_50 rfl (lv_at hl 4 rfl) ?_
            refine lv_icmp_gt (tgt := 89) hx hb dX6_bestGiver_51 (by decide) (fun c_51 => ?_) (fun c_51 => ?_)
            · refine lv_iconst (v := 1) hx hb dX6_bestGiver_89 (by decide) ?_
              refine lv_goto (tgt := 94) hx hb dX6_bestGiver_90 (by decide) ?_
              refine lv_istore (lv' := [(6, .int 1), (5, .int 0), (0, .ref (am 0)), (1, .int t), (2, .int xb), (3, .int xm), (4, .int xk)]) hx hb dX6_bestGiver_94 hl (by decide) rfl (fun ls hl => ?_)
              refine lv_iload hx hb dX6_bestGiver_96 (lv_at hl 0 rfl) ?_
              refine lv_if_eq (tgt := 106) hx hb dX6_bestGiver_98 (by decide) (fun h9 => absurd h9 (by decide)) (fun _ => ?_)
              refine lv_iload hx hb dX6_bestGiver_101 (lv_at hl 6 rfl) ?_
              refine lv_goto (tgt := 107) hx hb dX6_bestGiver_103 (by decide) ?_
              refine lv_istore_n (lv' := [(2, .int xk), (6, .int 1), (5, .int 0), (0, .ref (am 0)), (1, .int t), (3, .int xm), (4, .int xk)]) hx hb dX6_bestGiver_107 rfl hl (by decide) rfl (fun ls hl => ?_)
              refine lv_iload hx hb dX6_bestGiver_108 (lv_at hl 1 rfl) ?_
              refine lv_if_eq (tgt := 118) hx hb dX6_bestGiver_110 (by decide) (fun h9 => absurd h9 (by decide)) (fun _ => ?_)
              refine lv_iload hx hb dX6_bestGiver_113 (lv_at hl 2 rfl) ?_
              refine lv_goto (tgt := 119) hx hb dX6_bestGiver_115 (by decide) ?_
              refine lv_istore_n (lv' := [(3, .int 0), (2, .int xk), (6, .int 1), (5, .int 0), (0, .ref (am 0)), (1, .int t), (4, .int xk)]) hx hb dX6_bestGiver_119 rfl hl (by decide) rfl (fun ls hl => ?_)
              refine lv_iinc (v := xk + 1) (lv' := [(4, .int (xk + 1)), (3, .int 0), (2, .int xk), (6, .int 1), (5, .int 0), (0, .ref (am 0)), (1, .int t)]) hx hb dX6_bestGiver_120 hl (k := 6) rfl rfl (by decide) rfl (fun ls hl => ?_)
              refine lv_goto (tgt := 18) hx hb dX6_bestGiver_123 (by decide) ?_
              have hby : p_mov (Y 0) xk t = 0 := by rw [c_32]; exact mov_self
              have hnx : p_best (Y 0) t (k + 1) = (xk, 0) := by
                rw [← hby]
                refine best_yes ea ek ?_
                rw [hby]
                first | exact Or.inl c_51 | exact Or.inr ⟨c_62, hb9, Int32.not_le.mp c_86⟩
              exact ih_18  (k + 1) _ _ _ (by omega) (by omega) (by rw [ek]; exact nI_1 k) hnx _ (lv_sub hl [5, 6, 2, 1, 0] rfl)
            · refine lv_iload hx hb dX6_bestGiver_54 (lv_at hl 0 rfl) ?_
              refine lv_if_le (tgt := 93) hx hb dX6_bestGiver_56 (by decide) (fun _ => ?_) (fun h9 => absurd (by decide) h9)
              refine lv_iconst (v := 0) hx hb dX6_bestGiver_93 (by decide) ?_
              refine lv_istore (lv' := [(6, .int 0), (5, .int 0), (0, .ref (am 0)), (1, .int t), (2, .int xb), (3, .int xm), (4, .int xk)]) hx hb dX6_bestGiver_94 hl (by decide) rfl (fun ls hl => ?_)
              refine lv_iload hx hb dX6_bestGiver_96 (lv_at hl 0 rfl) ?_
              refine lv_if_eq (tgt := 106) hx hb dX6_bestGiver_98 (by decide) (fun _ => ?_) (fun h9 => absurd (by decide) h9)
              refine lv_iload_n hx hb dX6_bestGiver_106 rfl (lv_at hl 4 rfl) ?_
              refine lv_istore_n (lv' := [(2, .int xb), (6, .int 0), (5, .int 0), (0, .ref (am 0)), (1, .int t), (3, .int xm), (4, .int xk)]) hx hb dX6_bestGiver_107 rfl hl (by decide) rfl (fun ls hl => ?_)
              refine lv_iload hx hb dX6_bestGiver_108 (lv_at hl 1 rfl) ?_
              refine lv_if_eq (tgt := 118) hx hb dX6_bestGiver_110 (by decide) (fun _ => ?_) (fun h9 => absurd (by decide) h9)
              refine lv_iload_n hx hb dX6_bestGiver_118 rfl (lv_at hl 5 rfl) ?_
              refine lv_istore_n (lv' := [(3, .int xm), (2, .int xb), (6, .int 0), (5, .int 0), (0, .ref (am 0)), (1, .int t), (4, .int xk)]) hx hb dX6_bestGiver_119 rfl hl (by decide) rfl (fun ls hl => ?_)
              refine lv_iinc (v := xk + 1) (lv' := [(4, .int (xk + 1)), (3, .int xm), (2, .int xb), (6, .int 0), (5, .int 0), (0, .ref (am 0)), (1, .int t)]) hx hb dX6_bestGiver_120 hl (k := 6) rfl rfl (by decide) rfl (fun ls hl => ?_)
              refine lv_goto (tgt := 18) hx hb dX6_bestGiver_123 (by decide) ?_
              have hby : p_mov (Y 0) xk t = 0 := by rw [c_32]; exact mov_self
              have hnx : p_best (Y 0) t (k + 1) = (xb, xm) := by
                refine best_no ea ek ?_
                rw [hby]
                first | exact fun z => z.elim c_51 (fun z => c_62 z.1) | exact fun z => z.elim c_51 (fun z => Int32.not_le.mpr z.2.2 c_86) | exact fun z => z.elim c_51 (fun z => best_pos ea z.2.1 (by rw [← z.1]; exact c_56)) | exact fun z => z.elim c_51 (fun z => best_pos ea z.2.1 (by rw [← z.1]; exact Int32.le_refl _))
              exact ih_18  (k + 1) _ _ _ (by omega) (by omega) (by rw [ek]; exact nI_1 k) hnx _ (lv_sub hl [5, 6, 2, 1, 0] rfl)
    exact hloop_18  (md (Y 0) + 1) 0 (-9) 0 0 (by omega) (by omega) rfl rfl _ (lv_sub hl [3, 4, 2, 1, 0] rfl)
  · refine lv_if_ne (tgt := 10) hx hb dX6_bestGiver_5 (by decide) (fun h9 => absurd (by decide) h9) (fun _ => ?_)
    refine lv_iconst (v := (-1)) hx hb dX6_bestGiver_8 (by decide) ?_
    exact retE hx hb hr hlocks dX6_bestGiver_9 (ci_f c_2).symm
set_option maxHeartbeats 4000000 in
set_option maxRecDepth 100000 in
theorem c_X6_richest {l : Launch} {D : va_G} {cI cR : ClassId} {am : Nat → Nat} (Y : St) {K : Int} (hok : Ok K (Y 0)) (h : Int32) (i : Int32) : RoE l D cI cR (wM cI am Y) yX6_richest wsX6_richest ({ frames := 3, cells := 0, slots := 0, locals := 66 } : Room) [.ref (am 0), .int h, .int i] (v_rich (Y 0) h i) := by
  refine OfW (cc := cX6_richest) (maxL := 6) (ret := (some .int)) (by decide +kernel) rfl (Nat.le_of_ble_eq_true rfl) (fun p e s m below meth c hx hb hr hts hown hlocks hml hnm hP hK hN ls hl => ?_)
  have hl : lv_has ls 6 [(0, .ref (am 0)), (1, .int h), (2, .int i)] := hl
  have lk_7 := hts (.fieldLink RX6 7 "HeadBudgetsModel" "row" "[I") (by decide +kernel)
  have hi_X6 : ∀ w ∈ wsX60, w ∈ wsX6_richest := by decide +kernel
  refine lv_aload_n hx hb dX6_richest_0 rfl (lv_at hl 0 rfl) ?_
  refine lv_iload_n hx hb dX6_richest_1 rfl (lv_at hl 1 rfl) ?_
  refine callB (As := [.int h]) (rest := []) ⟨hx, hb, hml, hown, hts⟩ (c_X6_isHead Y hok h) (cwV 1 hts gX6_richest_X6_isHead rfl rfl rfl (by decide +kernel) ⟨Nat.le_of_ble_eq_true rfl, Nat.le_of_ble_eq_true rfl⟩) hK hN hP 0 rfl rfl rfl hl.1 rfl (Nat.le_of_ble_eq_true rfl) dX6_richest_2 ⟨Nat.zero_le _, Nat.zero_le _⟩ (fun c_2 => ?_) (fun c_2 => ?_)
  · refine lv_if_eq (tgt := 12) hx hb dX6_richest_5 (by decide) (fun h9 => absurd h9 (by decide)) (fun _ => ?_)
    refine lv_iload_n hx hb dX6_richest_8 rfl (lv_at hl 2 rfl) ?_
    refine lv_if_ge (tgt := 14) hx hb dX6_richest_9 (by decide) (fun c_9 => ?_) (fun c_9 => ?_)
    · refine lv_iconst (v := 0) hx hb dX6_richest_14 (by decide) ?_
      refine lv_istore_n (lv' := [(3, .int 0), (0, .ref (am 0)), (1, .int h), (2, .int i)]) hx hb dX6_richest_15 rfl hl (by decide) rfl (fun ls hl => ?_)
      have hloop_16 : ∀ (n_16 : Nat) (k : Nat) (xk : Int32), k ≤ md (Y 0) → md (Y 0) < k + n_16 → xk = nI k → p_place (Y 0) h i k = -9 → ∀ ls : Array Slot, lv_has ls 6 [(0, .ref (am 0)), (1, .int h), (2, .int i), (3, .int xk)] → W p l e ({ frames := 3, cells := 0, slots := 0, locals := 66 } : Room) s m ([.ref (am 0), .int h, .int i]).toArray below meth c s.heap [] 0 0 (MQ below (vp_Si (fun r => r = v_rich (Y 0) h i)) ([.ref (am 0), .int h, .int i]).toArray s 0 0 (fun _ => False)) (F0 m 16 ls []) := by
        intro n_16
        induction n_16 with
        | zero =>
          intro k xk hk hn ek ea ls hl
          exfalso; omega
        | succ n_16 ih_16 =>
          intro k xk hk hn ek ea ls hl
          refine lv_iload_n hx hb dX6_richest_16 rfl (lv_at hl 3 rfl) ?_
          refine lv_aload_n hx hb dX6_richest_17 rfl (lv_at hl 0 rfl) ?_
          refine xget (C := RX6) (T := TX6) (N := 10) (ci := 6) (w := .ref (am 1)) hx hb hts hi_X6 hown hK hP 0 rfl rfl 0 (by decide) lk_7 rfl dX6_richest_18 ?_
          refine lv_iconst (v := 1) hx hb dX6_richest_21 (by decide) ?_
          refine xald (x := Y 0 14 1) hx hb hK hP 1 rfl (vp_in_lit (by decide)) (row_n _ (o := 1) (by decide)) dX6_richest_22 ?_
          refine lv_icmp_ge (tgt := 102) hx hb dX6_richest_23 (by decide) (fun c_23 => ?_) (fun c_23 => ?_)
          · have hk2 : k = md (Y 0) := md_ge hok hk (by rw [← ek]; exact c_23)
            subst hk2
            refine lv_bipush (v := (-9)) hx hb dX6_richest_102 (by decide) ?_
            exact retE hx hb hr hlocks dX6_richest_104 (by unfold v_rich; rw [ci_t c_2, ci_t c_9, place_cut hok ea])
          · have hlt := md_lt hok hk (by rw [← ek]; exact c_23)
            have hpk : p_has (Y 0) xk := by rw [ek]; exact has_nI hok hlt.1
            have hhk := hin_has hpk
            refine lv_iconst (v := 0) hx hb dX6_richest_26 (by decide) ?_
            refine lv_istore (lv' := [(4, .int 0), (0, .ref (am 0)), (1, .int h), (2, .int i), (3, .int xk)]) hx hb dX6_richest_27 hl (by decide) rfl (fun ls hl => ?_)
            refine lv_iconst (v := 0) hx hb dX6_richest_29 (by decide) ?_
            refine lv_istore (lv' := [(5, .int 0), (4, .int 0), (0, .ref (am 0)), (1, .int h), (2, .int i), (3, .int xk)]) hx hb dX6_richest_30 hl (by decide) rfl (fun ls hl => ?_)
            have hloop_32 : ∀ (n_32 : Nat) (j : Nat) (xa xj : Int32), j ≤ md (Y 0) → md (Y 0) < j + n_32 → xj = nI j → xa = p_ahead (Y 0) xk h j → ∀ ls : Array Slot, lv_has ls 6 [(0, .ref (am 0)), (1, .int h), (2, .int i), (3, .int xk), (4, .int xa), (5, .int xj)] → W p l e ({ frames := 3, cells := 0, slots := 0, locals := 66 } : Room) s m ([.ref (am 0), .int h, .int i]).toArray below meth c s.heap [] 0 0 (MQ below (vp_Si (fun r => r = v_rich (Y 0) h i)) ([.ref (am 0), .int h, .int i]).toArray s 0 0 (fun _ => False)) (F0 m 32 ls []) := by
              intro n_32
              induction n_32 with
              | zero =>
                intro j xa xj hj hjn ej eb ls hl
                exfalso; omega
              | succ n_32 ih_32 =>
                intro j xa xj hj hjn ej eb ls hl
                refine lv_iload hx hb dX6_richest_32 (lv_at hl 5 rfl) ?_
                refine lv_aload_n hx hb dX6_richest_34 rfl (lv_at hl 0 rfl) ?_
                refine xget (C := RX6) (T := TX6) (N := 10) (ci := 6) (w := .ref (am 1)) hx hb hts hi_X6 hown hK hP 0 rfl rfl 0 (by decide) lk_7 rfl dX6_richest_35 ?_
                refine lv_iconst (v := 1) hx hb dX6_richest_38 (by decide) ?_
                refine xald (x := Y 0 14 1) hx hb hK hP 1 rfl (vp_in_lit (by decide)) (row_n _ (o := 1) (by decide)) dX6_richest_39 ?_
                refine lv_icmp_ge (tgt := 79) hx hb dX6_richest_40 (by decide) (fun c_40 => ?_) (fun c_40 => ?_)
                · have hj2 : j = md (Y 0) := md_ge hok hj (by rw [← ej]; exact c_40)
                  subst hj2
                  have hah : xa = p_ahead (Y 0) xk h 20 := by rw [eb]; exact (ahead_md hok).symm
                  refine lv_aload_n hx hb dX6_richest_79 rfl (lv_at hl 0 rfl) ?_
                  refine lv_iload_n hx hb dX6_richest_80 rfl (lv_at hl 3 rfl) ?_
                  refine lv_iload_n hx hb dX6_richest_81 rfl (lv_at hl 1 rfl) ?_
                  refine callB (As := [.int xk, .int h]) (rest := []) ⟨hx, hb, hml, hown, hts⟩ (c_X6_isBelow Y hok xk h (by assumption) (by assumption)) (cwV 2 hts gX6_richest_X6_isBelow rfl rfl rfl (by decide +kernel) ⟨Nat.le_of_ble_eq_true rfl, Nat.le_of_ble_eq_true rfl⟩) hK hN hP 0 rfl rfl rfl hl.1 rfl (Nat.le_of_ble_eq_true rfl) dX6_richest_82 ⟨Nat.zero_le _, Nat.zero_le _⟩ (fun c_82 => ?_) (fun c_82 => ?_)
                  · refine lv_if_eq (tgt := 96) hx hb dX6_richest_85 (by decide) (fun h9 => absurd h9 (by decide)) (fun _ => ?_)
                    refine lv_iload hx hb dX6_richest_88 (lv_at hl 4 rfl) ?_
                    refine lv_iload_n hx hb dX6_richest_90 rfl (lv_at hl 2 rfl) ?_
                    refine lv_icmp_ne (tgt := 96) hx hb dX6_richest_91 (by decide) (fun c_91 => ?_) (fun c_91 => ?_)
                    · refine lv_iinc (v := xk + 1) (lv' := [(3, .int (xk + 1)), (0, .ref (am 0)), (1, .int h), (2, .int i), (4, .int xa), (5, .int xj)]) hx hb dX6_richest_96 hl (k := 3) rfl rfl (by decide) rfl (fun ls hl => ?_)
                      refine lv_goto (tgt := 16) hx hb dX6_richest_99 (by decide) ?_
                      exact ih_16  (k + 1) _ (by omega) (by omega) (by rw [ek]; exact nI_1 k) (place_no ea (by rw [← ek, ← hah]; first | exact fun z => c_82 ((mb_iff hok hpk c_2).mpr ⟨z.1, z.2.1⟩) | exact fun z => c_91 z.2.2)) _ (lv_sub hl [1, 2, 3, 0] rfl)
                    · refine lv_iload_n hx hb dX6_richest_94 rfl (lv_at hl 3 rfl) ?_
                      exact retE hx hb hr hlocks dX6_richest_95 (by unfold v_rich; rw [ci_t c_2, ci_t c_9, ek]; exact (place_yes ea (by rw [← ek, ← hah]; exact ⟨((mb_iff hok hpk c_2).mp c_82).1, ((mb_iff hok hpk c_2).mp c_82).2, c_91⟩) hlt.2).symm)
                  · refine lv_if_eq (tgt := 96) hx hb dX6_richest_85 (by decide) (fun _ => ?_) (fun h9 => absurd (by decide) h9)
                    refine lv_iinc (v := xk + 1) (lv' := [(3, .int (xk + 1)), (0, .ref (am 0)), (1, .int h), (2, .int i), (4, .int xa), (5, .int xj)]) hx hb dX6_richest_96 hl (k := 3) rfl rfl (by decide) rfl (fun ls hl => ?_)
                    refine lv_goto (tgt := 16) hx hb dX6_richest_99 (by decide) ?_
                    exact ih_16  (k + 1) _ (by omega) (by omega) (by rw [ek]; exact nI_1 k) (place_no ea (by rw [← ek, ← hah]; first | exact fun z => c_82 ((mb_iff hok hpk c_2).mpr ⟨z.1, z.2.1⟩) | exact fun z => c_91 z.2.2)) _ (lv_sub hl [1, 2, 3, 0] rfl)
                · have hjl := md_lt hok hj (by rw [← ej]; exact c_40)
                  have hpj : p_has (Y 0) xj := by rw [ej]; exact has_nI hok hjl.1
                  refine lv_iload hx hb dX6_richest_43 (lv_at hl 4 rfl) ?_
                  refine lv_aload_n hx hb dX6_richest_45 rfl (lv_at hl 0 rfl) ?_
                  refine lv_iload hx hb dX6_richest_46 (lv_at hl 5 rfl) ?_
                  refine lv_iload_n hx hb dX6_richest_48 rfl (lv_at hl 1 rfl) ?_
                  refine callB (As := [.int xj, .int h]) (rest := [.int xa]) ⟨hx, hb, hml, hown, hts⟩ (c_X6_isBelow Y hok xj h (by assumption) (by assumption)) (cwV 2 hts gX6_richest_X6_isBelow rfl rfl rfl (by decide +kernel) ⟨Nat.le_of_ble_eq_true rfl, Nat.le_of_ble_eq_true rfl⟩) hK hN hP 0 rfl rfl rfl hl.1 rfl (Nat.le_of_ble_eq_true rfl) dX6_richest_49 ⟨Nat.zero_le _, Nat.zero_le _⟩ (fun c_49 => ?_) (fun c_49 => ?_)
                  · refine lv_if_eq (tgt := 69) hx hb dX6_richest_52 (by decide) (fun h9 => absurd h9 (by decide)) (fun _ => ?_)
                    refine lv_aload_n hx hb dX6_richest_55 rfl (lv_at hl 0 rfl) ?_
                    refine lv_iload hx hb dX6_richest_56 (lv_at hl 5 rfl) ?_
                    refine lv_iload_n hx hb dX6_richest_58 rfl (lv_at hl 3 rfl) ?_
                    refine callB (As := [.int xj, .int xk]) (rest := [.int xa]) ⟨hx, hb, hml, hown, hts⟩ (c_X6_isRicher Y hok xj xk (by assumption) (by assumption)) (cwV 2 hts gX6_richest_X6_isRicher rfl rfl rfl (by decide +kernel) ⟨Nat.le_of_ble_eq_true rfl, Nat.le_of_ble_eq_true rfl⟩) hK hN hP 0 rfl rfl rfl hl.1 rfl (Nat.le_of_ble_eq_true rfl) dX6_richest_59 ⟨Nat.zero_le _, Nat.zero_le _⟩ (fun c_59 => ?_) (fun c_59 => ?_)
                    · refine lv_if_eq (tgt := 69) hx hb dX6_richest_62 (by decide) (fun h9 => absurd h9 (by decide)) (fun _ => ?_)
                      refine lv_iconst (v := 1) hx hb dX6_richest_65 (by decide) ?_
                      refine lv_goto (tgt := 70) hx hb dX6_richest_66 (by decide) ?_
                      refine lv_iadd hx hb dX6_richest_70 ?_
                      refine lv_istore (lv' := [(4, .int (xa + 1)), (0, .ref (am 0)), (1, .int h), (2, .int i), (3, .int xk), (5, .int xj)]) hx hb dX6_richest_71 hl (by decide) rfl (fun ls hl => ?_)
                      refine lv_iinc (v := xj + 1) (lv' := [(5, .int (xj + 1)), (4, .int (xa + 1)), (0, .ref (am 0)), (1, .int h), (2, .int i), (3, .int xk)]) hx hb dX6_richest_73 hl (k := 5) rfl rfl (by decide) rfl (fun ls hl => ?_)
                      refine lv_goto (tgt := 32) hx hb dX6_richest_76 (by decide) ?_
                      exact ih_32  (j + 1) _ _ (by omega) (by omega) (by rw [ej]; exact nI_1 j) (by rw [eb]; first | exact (sumI_ci (by rw [← ej]; exact ⟨((mb_iff hok hpj c_2).mp c_49).1, ((mb_iff hok hpj c_2).mp c_49).2, c_59⟩) rfl).symm | (rw [Int32.add_zero]; exact (sumI_c0 (by rw [← ej]; first | exact fun z => c_49 ((mb_iff hok hpj c_2).mpr ⟨z.1, z.2.1⟩) | exact fun z => c_59 z.2.2) rfl).symm)) _ (lv_sub hl [2, 3, 4, 5, 1, 0] rfl)
                    · refine lv_if_eq (tgt := 69) hx hb dX6_richest_62 (by decide) (fun _ => ?_) (fun h9 => absurd (by decide) h9)
                      refine lv_iconst (v := 0) hx hb dX6_richest_69 (by decide) ?_
                      refine lv_iadd hx hb dX6_richest_70 ?_
                      refine lv_istore (lv' := [(4, .int (xa + 0)), (0, .ref (am 0)), (1, .int h), (2, .int i), (3, .int xk), (5, .int xj)]) hx hb dX6_richest_71 hl (by decide) rfl (fun ls hl => ?_)
                      refine lv_iinc (v := xj + 1) (lv' := [(5, .int (xj + 1)), (4, .int (xa + 0)), (0, .ref (am 0)), (1, .int h), (2, .int i), (3, .int xk)]) hx hb dX6_richest_73 hl (k := 5) rfl rfl (by decide) rfl (fun ls hl => ?_)
                      refine lv_goto (tgt := 32) hx hb dX6_richest_76 (by decide) ?_
                      exact ih_32  (j + 1) _ _ (by omega) (by omega) (by rw [ej]; exact nI_1 j) (by rw [eb]; first | exact (sumI_ci (by rw [← ej]; exact ⟨((mb_iff hok hpj c_2).mp c_49).1, ((mb_iff hok hpj c_2).mp c_49).2, c_59⟩) rfl).symm | (rw [Int32.add_zero]; exact (sumI_c0 (by rw [← ej]; first | exact fun z => c_49 ((mb_iff hok hpj c_2).mpr ⟨z.1, z.2.1⟩) | exact fun z => c_59 z.2.2) rfl).symm)) _ (lv_sub hl [2, 3, 4, 5, 1, 0] rfl)
                  · refine lv_if_eq (tgt := 69) hx hb dX6_richest_52 (by decide) (fun _ => ?_) (fun h9 => absurd (by decide) h9)
                    refine lv_iconst (v := 0) hx hb dX6_richest_69 (by decide) ?_
                    refine lv_iadd hx hb dX6_richest_70 ?_
                    refine lv_istore (lv' := [(4, .int (xa + 0)), (0, .ref (am 0)), (1, .int h), (2, .int i), (3, .int xk), (5, .int xj)]) hx hb dX6_richest_71 hl (by decide) rfl (fun ls hl => ?_)
                    refine lv_iinc (v := xj + 1) (lv' := [(5, .int (xj + 1)), (4, .int (xa + 0)), (0, .ref (am 0)), (1, .int h), (2, .int i), (3, .int xk)]) hx hb dX6_richest_73 hl (k := 5) rfl rfl (by decide) rfl (fun ls hl => ?_)
                    refine lv_goto (tgt := 32) hx hb dX6_richest_76 (by decide) ?_
                    exact ih_32  (j + 1) _ _ (by omega) (by omega) (by rw [ej]; exact nI_1 j) (by rw [eb]; first | exact (sumI_ci (by rw [← ej]; exact ⟨((mb_iff hok hpj c_2).mp c_49).1, ((mb_iff hok hpj c_2).mp c_49).2, c_59⟩) rfl).symm | (rw [Int32.add_zero]; exact (sumI_c0 (by rw [← ej]; first | exact fun z => c_49 ((mb_iff hok hpj c_2).mpr ⟨z.1, z.2.1⟩) | exact fun z => c_59 z.2.2) rfl).symm)) _ (lv_sub hl [2, 3, 4, 5, 1, 0] rfl)
            exact hloop_32  (md (Y 0) + 1) 0 0 0 (by omega) (by omega) rfl rfl _ (lv_sub hl [2, 3, 4, 5, 1, 0] rfl)
      exact hloop_16  (md (Y 0) + 1) 0 0 (by omega) (by omega) rfl rfl _ (lv_sub hl [1, 2, 3, 0] rfl)
    · refine lv_iconst (v := (-1)) hx hb dX6_richest_12 (by decide) ?_
      exact retE hx hb hr hlocks dX6_richest_13 (by unfold v_rich; rw [ci_t c_2, ci_f c_9])
  · refine lv_if_eq (tgt := 12) hx hb dX6_richest_5 (by decide) (fun _ => ?_) (fun h9 => absurd (by decide) h9)
    refine lv_iconst (v := (-1)) hx hb dX6_richest_12 (by decide) ?_
    exact retE hx hb hr hlocks dX6_richest_13 (ci_f c_2).symm
set_option maxHeartbeats 4000000 in
set_option maxRecDepth 100000 in
theorem c_X6_count {l : Launch} {D : va_G} {cI cR : ClassId} {am : Nat → Nat} (Y : St) {K : Int} (hok : Ok K (Y 0)) (wh : Int32) : RoE l D cI cR (wM cI am Y) yX6_count wsX6_count ({ frames := 4, cells := 0, slots := 0, locals := 86 } : Room) [.ref (am 0), .int wh] (v_count (Y 0) (Y 14 0 0) wh) := by
  refine OfW (cc := cX6_count) (maxL := 2) (ret := (some .int)) (by decide +kernel) rfl (Nat.le_of_ble_eq_true rfl) (fun p e s m below meth c hx hb hr hts hown hlocks hml hnm hP hK hN ls hl => ?_)
  have hl : lv_has ls 2 [(0, .ref (am 0)), (1, .int wh)] := hl
  have lk_7 := hts (.fieldLink RX6 7 "HeadBudgetsModel" "row" "[I") (by decide +kernel)
  have lk_47 := hts (.fieldLink RX6 47 "HeadBudgetsModel" "deeds" "I") (by decide +kernel)
  have hi_X6 : ∀ w ∈ wsX60, w ∈ wsX6_count := by decide +kernel
  refine lv_iload_n hx hb dX6_count_0 rfl (lv_at hl 1 rfl) ?_
  by_cases s_1_0 : wh = 0
  · refine lv_tableIn (off := 55) (tgt := 56) hx hb dX6_count_1 (by rw [s_1_0]; decide) (by rw [s_1_0]; decide) (by rw [s_1_0]; rfl) (by decide) ?_
    refine lv_aload_n hx hb dX6_count_56 rfl (lv_at hl 0 rfl) ?_
    refine xget (C := RX6) (T := TX6) (N := 10) (ci := 6) (w := .ref (am 1)) hx hb hts hi_X6 hown hK hP 0 rfl rfl 0 (by decide) lk_7 rfl dX6_count_57 ?_
    refine lv_iload_n hx hb dX6_count_60 rfl (lv_at hl 1 rfl) ?_
    refine xald (x := Y 0 14 0) hx hb hK hP 1 rfl (by rw [s_1_0]; exact vp_in_lit (by decide)) (by rw [s_1_0]; exact row_n _ (by decide)) dX6_count_61 ?_
    exact retE hx hb hr hlocks dX6_count_62 (by first | rfl | (unfold v_count; repeat (first | rw [ci_t s_1_0] | rw [ci_f s_1_0])))
  by_cases s_1_1 : wh = 1
  · refine lv_tableIn (off := 55) (tgt := 56) hx hb dX6_count_1 (by rw [s_1_1]; decide) (by rw [s_1_1]; decide) (by rw [s_1_1]; rfl) (by decide) ?_
    refine lv_aload_n hx hb dX6_count_56 rfl (lv_at hl 0 rfl) ?_
    refine xget (C := RX6) (T := TX6) (N := 10) (ci := 6) (w := .ref (am 1)) hx hb hts hi_X6 hown hK hP 0 rfl rfl 0 (by decide) lk_7 rfl dX6_count_57 ?_
    refine lv_iload_n hx hb dX6_count_60 rfl (lv_at hl 1 rfl) ?_
    refine xald (x := Y 0 14 1) hx hb hK hP 1 rfl (by rw [s_1_1]; exact vp_in_lit (by decide)) (by rw [s_1_1]; exact row_n _ (by decide)) dX6_count_61 ?_
    exact retE hx hb hr hlocks dX6_count_62 (by first | rfl | (unfold v_count; repeat (first | rw [ci_t s_1_1] | rw [ci_f s_1_1] | rw [ci_t s_1_0] | rw [ci_f s_1_0])))
  by_cases s_1_2 : wh = 2
  · refine lv_tableIn (off := 55) (tgt := 56) hx hb dX6_count_1 (by rw [s_1_2]; decide) (by rw [s_1_2]; decide) (by rw [s_1_2]; rfl) (by decide) ?_
    refine lv_aload_n hx hb dX6_count_56 rfl (lv_at hl 0 rfl) ?_
    refine xget (C := RX6) (T := TX6) (N := 10) (ci := 6) (w := .ref (am 1)) hx hb hts hi_X6 hown hK hP 0 rfl rfl 0 (by decide) lk_7 rfl dX6_count_57 ?_
    refine lv_iload_n hx hb dX6_count_60 rfl (lv_at hl 1 rfl) ?_
    refine xald (x := Y 0 14 2) hx hb hK hP 1 rfl (by rw [s_1_2]; exact vp_in_lit (by decide)) (by rw [s_1_2]; exact row_n _ (by decide)) dX6_count_61 ?_
    exact retE hx hb hr hlocks dX6_count_62 (by first | rfl | (unfold v_count; repeat (first | rw [ci_t s_1_2] | rw [ci_f s_1_2] | rw [ci_t s_1_0] | rw [ci_f s_1_0] | rw [ci_t s_1_1] | rw [ci_f s_1_1])))
  by_cases s_1_3 : wh = 3
  · refine lv_tableIn (off := 62) (tgt := 63) hx hb dX6_count_1 (by rw [s_1_3]; decide) (by rw [s_1_3]; decide) (by rw [s_1_3]; rfl) (by decide) ?_
    refine lv_aload_n hx hb dX6_count_63 rfl (lv_at hl 0 rfl) ?_
    refine callE (As := []) (rest := []) ⟨hx, hb, hml, hown, hts⟩ (c_X6_opens Y hok) (cwV 0 hts gX6_count_X6_opens rfl rfl rfl (by decide +kernel) ⟨Nat.le_of_ble_eq_true rfl, Nat.le_of_ble_eq_true rfl⟩) hK hN hP 0 rfl rfl rfl hl.1 rfl (Nat.le_of_ble_eq_true rfl) dX6_count_64 ⟨Nat.zero_le _, Nat.zero_le _⟩ ?_
    exact retE hx hb hr hlocks dX6_count_67 (by first | rfl | (unfold v_count; repeat (first | rw [ci_t s_1_3] | rw [ci_f s_1_3] | rw [ci_t s_1_0] | rw [ci_f s_1_0] | rw [ci_t s_1_1] | rw [ci_f s_1_1] | rw [ci_t s_1_2] | rw [ci_f s_1_2])))
  by_cases s_1_4 : wh = 4
  · refine lv_tableIn (off := 67) (tgt := 68) hx hb dX6_count_1 (by rw [s_1_4]; decide) (by rw [s_1_4]; decide) (by rw [s_1_4]; rfl) (by decide) ?_
    refine lv_aload_n hx hb dX6_count_68 rfl (lv_at hl 0 rfl) ?_
    refine callE (As := []) (rest := []) ⟨hx, hb, hml, hown, hts⟩ (c_X6_barred Y hok) (cwV 0 hts gX6_count_X6_barred rfl rfl rfl (by decide +kernel) ⟨Nat.le_of_ble_eq_true rfl, Nat.le_of_ble_eq_true rfl⟩) hK hN hP 0 rfl rfl rfl hl.1 rfl (Nat.le_of_ble_eq_true rfl) dX6_count_69 ⟨Nat.zero_le _, Nat.zero_le _⟩ ?_
    exact retE hx hb hr hlocks dX6_count_72 (by first | rfl | (unfold v_count; repeat (first | rw [ci_t s_1_4] | rw [ci_f s_1_4] | rw [ci_t s_1_0] | rw [ci_f s_1_0] | rw [ci_t s_1_1] | rw [ci_f s_1_1] | rw [ci_t s_1_2] | rw [ci_f s_1_2] | rw [ci_t s_1_3] | rw [ci_f s_1_3])))
  by_cases s_1_5 : wh = 5
  · refine lv_tableIn (off := 72) (tgt := 73) hx hb dX6_count_1 (by rw [s_1_5]; decide) (by rw [s_1_5]; decide) (by rw [s_1_5]; rfl) (by decide) ?_
    refine lv_aload_n hx hb dX6_count_73 rfl (lv_at hl 0 rfl) ?_
    refine xget (C := RX6) (T := TX6) (N := 10) (ci := 6) (w := .ref (am 1)) hx hb hts hi_X6 hown hK hP 0 rfl rfl 0 (by decide) lk_7 rfl dX6_count_74 ?_
    refine lv_iconst (v := 3) hx hb dX6_count_77 (by decide) ?_
    refine xald (x := Y 0 14 3) hx hb hK hP 1 rfl (vp_in_lit (by decide)) (row_n _ (o := 3) (by decide)) dX6_count_78 ?_
    exact retE hx hb hr hlocks dX6_count_79 (by first | rfl | (unfold v_count; repeat (first | rw [ci_t s_1_5] | rw [ci_f s_1_5] | rw [ci_t s_1_0] | rw [ci_f s_1_0] | rw [ci_t s_1_1] | rw [ci_f s_1_1] | rw [ci_t s_1_2] | rw [ci_f s_1_2] | rw [ci_t s_1_3] | rw [ci_f s_1_3] | rw [ci_t s_1_4] | rw [ci_f s_1_4])))
  by_cases s_1_6 : wh = 6
  · refine lv_tableIn (off := 79) (tgt := 80) hx hb dX6_count_1 (by rw [s_1_6]; decide) (by rw [s_1_6]; decide) (by rw [s_1_6]; rfl) (by decide) ?_
    refine lv_aload_n hx hb dX6_count_80 rfl (lv_at hl 0 rfl) ?_
    refine lv_iconst (v := 3) hx hb dX6_count_81 (by decide) ?_
    refine callE (As := [.int 3]) (rest := []) ⟨hx, hb, hml, hown, hts⟩ (c_X6_sumOf Y hok 3 rfl) (cwV 1 hts gX6_count_X6_sumOf rfl rfl rfl (by decide +kernel) ⟨Nat.le_of_ble_eq_true rfl, Nat.le_of_ble_eq_true rfl⟩) hK hN hP 0 rfl rfl rfl hl.1 rfl (Nat.le_of_ble_eq_true rfl) dX6_count_82 ⟨Nat.zero_le _, Nat.zero_le _⟩ ?_
    exact retE hx hb hr hlocks dX6_count_85 (by first | rfl | (unfold v_count; repeat (first | rw [ci_t s_1_6] | rw [ci_f s_1_6] | rw [ci_t s_1_0] | rw [ci_f s_1_0] | rw [ci_t s_1_1] | rw [ci_f s_1_1] | rw [ci_t s_1_2] | rw [ci_f s_1_2] | rw [ci_t s_1_3] | rw [ci_f s_1_3] | rw [ci_t s_1_4] | rw [ci_f s_1_4] | rw [ci_t s_1_5] | rw [ci_f s_1_5])))
  by_cases s_1_7 : wh = 7
  · refine lv_tableIn (off := 85) (tgt := 86) hx hb dX6_count_1 (by rw [s_1_7]; decide) (by rw [s_1_7]; decide) (by rw [s_1_7]; rfl) (by decide) ?_
    refine lv_aload_n hx hb dX6_count_86 rfl (lv_at hl 0 rfl) ?_
    refine xget (C := RX6) (T := TX6) (N := 10) (ci := 6) (w := .ref (am 1)) hx hb hts hi_X6 hown hK hP 0 rfl rfl 0 (by decide) lk_7 rfl dX6_count_87 ?_
    refine lv_iconst (v := 4) hx hb dX6_count_90 (by decide) ?_
    refine xald (x := Y 0 14 4) hx hb hK hP 1 rfl (vp_in_lit (by decide)) (row_n _ (o := 4) (by decide)) dX6_count_91 ?_
    exact retE hx hb hr hlocks dX6_count_92 (by first | rfl | (unfold v_count; repeat (first | rw [ci_t s_1_7] | rw [ci_f s_1_7] | rw [ci_t s_1_0] | rw [ci_f s_1_0] | rw [ci_t s_1_1] | rw [ci_f s_1_1] | rw [ci_t s_1_2] | rw [ci_f s_1_2] | rw [ci_t s_1_3] | rw [ci_f s_1_3] | rw [ci_t s_1_4] | rw [ci_f s_1_4] | rw [ci_t s_1_5] | rw [ci_f s_1_5] | rw [ci_t s_1_6] | rw [ci_f s_1_6])))
  by_cases s_1_8 : wh = 8
  · refine lv_tableIn (off := 92) (tgt := 93) hx hb dX6_count_1 (by rw [s_1_8]; decide) (by rw [s_1_8]; decide) (by rw [s_1_8]; rfl) (by decide) ?_
    refine lv_aload_n hx hb dX6_count_93 rfl (lv_at hl 0 rfl) ?_
    refine xget (C := RX6) (T := TX6) (N := 10) (ci := 6) (w := .ref (am 1)) hx hb hts hi_X6 hown hK hP 0 rfl rfl 0 (by decide) lk_7 rfl dX6_count_94 ?_
    refine lv_iconst (v := 5) hx hb dX6_count_97 (by decide) ?_
    refine xald (x := Y 0 14 5) hx hb hK hP 1 rfl (vp_in_lit (by decide)) (row_n _ (o := 5) (by decide)) dX6_count_98 ?_
    exact retE hx hb hr hlocks dX6_count_99 (by first | rfl | (unfold v_count; repeat (first | rw [ci_t s_1_8] | rw [ci_f s_1_8] | rw [ci_t s_1_0] | rw [ci_f s_1_0] | rw [ci_t s_1_1] | rw [ci_f s_1_1] | rw [ci_t s_1_2] | rw [ci_f s_1_2] | rw [ci_t s_1_3] | rw [ci_f s_1_3] | rw [ci_t s_1_4] | rw [ci_f s_1_4] | rw [ci_t s_1_5] | rw [ci_f s_1_5] | rw [ci_t s_1_6] | rw [ci_f s_1_6] | rw [ci_t s_1_7] | rw [ci_f s_1_7])))
  by_cases s_1_9 : wh = 9
  · refine lv_tableIn (off := 99) (tgt := 100) hx hb dX6_count_1 (by rw [s_1_9]; decide) (by rw [s_1_9]; decide) (by rw [s_1_9]; rfl) (by decide) ?_
    refine lv_aload_n hx hb dX6_count_100 rfl (lv_at hl 0 rfl) ?_
    refine xget (C := RX6) (T := TX6) (N := 10) (ci := 6) (w := .int (Y 14 0 0)) hx hb hts hi_X6 hown hK hP 0 rfl rfl 1 (by decide) lk_47 rfl dX6_count_101 ?_
    exact retE hx hb hr hlocks dX6_count_104 (by first | rfl | (unfold v_count; repeat (first | rw [ci_t s_1_9] | rw [ci_f s_1_9] | rw [ci_t s_1_0] | rw [ci_f s_1_0] | rw [ci_t s_1_1] | rw [ci_f s_1_1] | rw [ci_t s_1_2] | rw [ci_f s_1_2] | rw [ci_t s_1_3] | rw [ci_f s_1_3] | rw [ci_t s_1_4] | rw [ci_f s_1_4] | rw [ci_t s_1_5] | rw [ci_f s_1_5] | rw [ci_t s_1_6] | rw [ci_f s_1_6] | rw [ci_t s_1_7] | rw [ci_f s_1_7] | rw [ci_t s_1_8] | rw [ci_f s_1_8])))
  have h9 : (wh).toInt < 0 ∨ 9 < (wh).toInt := by
    have q_0 := lv_neT (a := 0) s_1_0 rfl
    have q_1 := lv_neT (a := 1) s_1_1 rfl
    have q_2 := lv_neT (a := 2) s_1_2 rfl
    have q_3 := lv_neT (a := 3) s_1_3 rfl
    have q_4 := lv_neT (a := 4) s_1_4 rfl
    have q_5 := lv_neT (a := 5) s_1_5 rfl
    have q_6 := lv_neT (a := 6) s_1_6 rfl
    have q_7 := lv_neT (a := 7) s_1_7 rfl
    have q_8 := lv_neT (a := 8) s_1_8 rfl
    have q_9 := lv_neT (a := 9) s_1_9 rfl
    omega
  refine lv_tableOut (tgt := 105) hx hb dX6_count_1 h9 (by decide) ?_
  refine lv_iconst (v := (-1)) hx hb dX6_count_105 (by decide) ?_
  exact retE hx hb hr hlocks dX6_count_106 (by first | rfl | (unfold v_count; repeat (first | rw [ci_t s_1_0] | rw [ci_f s_1_0] | rw [ci_t s_1_1] | rw [ci_f s_1_1] | rw [ci_t s_1_2] | rw [ci_f s_1_2] | rw [ci_t s_1_3] | rw [ci_f s_1_3] | rw [ci_t s_1_4] | rw [ci_f s_1_4] | rw [ci_t s_1_5] | rw [ci_f s_1_5] | rw [ci_t s_1_6] | rw [ci_f s_1_6] | rw [ci_t s_1_7] | rw [ci_f s_1_7] | rw [ci_t s_1_8] | rw [ci_f s_1_8] | rw [ci_t s_1_9] | rw [ci_f s_1_9])))
set_option maxHeartbeats 4000000 in
set_option maxRecDepth 100000 in
theorem c_X6_head {l : Launch} {D : va_G} {cI cR : ClassId} {am : Nat → Nat} (Y : St) {K : Int} (hok : Ok K (Y 0)) (h : Int32) (wh : Int32) : RoE l D cI cR (wM cI am Y) yX6_head wsX6_head ({ frames := 3, cells := 0, slots := 0, locals := 65 } : Room) [.ref (am 0), .int h, .int wh] (v_head (Y 0) h wh) := by
  refine OfW (cc := cX6_head) (maxL := 3) (ret := (some .int)) (by decide +kernel) rfl (Nat.le_of_ble_eq_true rfl) (fun p e s m below meth c hx hb hr hts hown hlocks hml hnm hP hK hN ls hl => ?_)
  have hl : lv_has ls 3 [(0, .ref (am 0)), (1, .int h), (2, .int wh)] := hl
  have lk_7 := hts (.fieldLink RX6 7 "HeadBudgetsModel" "row" "[I") (by decide +kernel)
  have hi_X6 : ∀ w ∈ wsX60, w ∈ wsX6_head := by decide +kernel
  refine lv_aload_n hx hb dX6_head_0 rfl (lv_at hl 0 rfl) ?_
  refine lv_iload_n hx hb dX6_head_1 rfl (lv_at hl 1 rfl) ?_
  refine callB (As := [.int h]) (rest := []) ⟨hx, hb, hml, hown, hts⟩ (c_X6_isHead Y hok h) (cwV 1 hts gX6_head_X6_isHead rfl rfl rfl (by decide +kernel) ⟨Nat.le_of_ble_eq_true rfl, Nat.le_of_ble_eq_true rfl⟩) hK hN hP 0 rfl rfl rfl hl.1 rfl (Nat.le_of_ble_eq_true rfl) dX6_head_2 ⟨Nat.zero_le _, Nat.zero_le _⟩ (fun c_2 => ?_) (fun c_2 => ?_)
  · have hh := hin_has c_2
    refine lv_if_ne (tgt := 10) hx hb dX6_head_5 (by decide) (fun _ => ?_) (fun h9 => absurd h9 (by decide))
    refine lv_iload_n hx hb dX6_head_10 rfl (lv_at hl 2 rfl) ?_
    by_cases s_11_0 : wh = 0
    · refine lv_tableIn (off := 61) (tgt := 72) hx hb dX6_head_11 (by rw [s_11_0]; decide) (by rw [s_11_0]; decide) (by rw [s_11_0]; rfl) (by decide) ?_
      refine lv_aload_n hx hb dX6_head_72 rfl (lv_at hl 0 rfl) ?_
      refine lv_iload_n hx hb dX6_head_73 rfl (lv_at hl 1 rfl) ?_
      refine callE (As := [.int h]) (rest := []) ⟨hx, hb, hml, hown, hts⟩ (c_X6_aboveOf Y h (by assumption)) (cwV 1 hts gX6_head_X6_aboveOf rfl rfl rfl (by decide +kernel) ⟨Nat.le_of_ble_eq_true rfl, Nat.le_of_ble_eq_true rfl⟩) hK hN hP 0 rfl rfl rfl hl.1 rfl (Nat.le_of_ble_eq_true rfl) dX6_head_74 ⟨Nat.zero_le _, Nat.zero_le _⟩ ?_
      exact retE hx hb hr hlocks dX6_head_77 (by first | (unfold v_head; (repeat (first | rw [ci_t c_2] | rw [ci_f c_2] | rw [ci_t s_11_0] | rw [ci_f s_11_0])); done) | (unfold v_head; (repeat (first | rw [ci_t c_2] | rw [ci_f c_2] | rw [ci_t s_11_0] | rw [ci_f s_11_0])); exact (free_fr c_2).symm))
    by_cases s_11_1 : wh = 1
    · refine lv_tableIn (off := 67) (tgt := 78) hx hb dX6_head_11 (by rw [s_11_1]; decide) (by rw [s_11_1]; decide) (by rw [s_11_1]; rfl) (by decide) ?_
      refine lv_aload_n hx hb dX6_head_78 rfl (lv_at hl 0 rfl) ?_
      refine lv_iload_n hx hb dX6_head_79 rfl (lv_at hl 1 rfl) ?_
      refine callE (As := [.int h]) (rest := []) ⟨hx, hb, hml, hown, hts⟩ (c_X6_depth Y hok h (by assumption)) (cwV 1 hts gX6_head_X6_depth rfl rfl rfl (by decide +kernel) ⟨Nat.le_of_ble_eq_true rfl, Nat.le_of_ble_eq_true rfl⟩) hK hN hP 0 rfl rfl rfl hl.1 rfl (Nat.le_of_ble_eq_true rfl) dX6_head_80 ⟨Nat.zero_le _, Nat.zero_le _⟩ ?_
      exact retE hx hb hr hlocks dX6_head_83 (by first | (unfold v_head; (repeat (first | rw [ci_t c_2] | rw [ci_f c_2] | rw [ci_t s_11_1] | rw [ci_f s_11_1] | rw [ci_t s_11_0] | rw [ci_f s_11_0])); done) | (unfold v_head; (repeat (first | rw [ci_t c_2] | rw [ci_f c_2] | rw [ci_t s_11_1] | rw [ci_f s_11_1] | rw [ci_t s_11_0] | rw [ci_f s_11_0])); exact (free_fr c_2).symm))
    by_cases s_11_2 : wh = 2
    · refine lv_tableIn (off := 73) (tgt := 84) hx hb dX6_head_11 (by rw [s_11_2]; decide) (by rw [s_11_2]; decide) (by rw [s_11_2]; rfl) (by decide) ?_
      refine lv_aload_n hx hb dX6_head_84 rfl (lv_at hl 0 rfl) ?_
      refine xget (C := RX6) (T := TX6) (N := 10) (ci := 6) (w := .ref (am 1)) hx hb hts hi_X6 hown hK hP 0 rfl rfl 0 (by decide) lk_7 rfl dX6_head_85 ?_
      refine lv_iload_n hx hb dX6_head_88 rfl (lv_at hl 1 rfl) ?_
      refine lv_iload_n hx hb dX6_head_89 rfl (lv_at hl 2 rfl) ?_
      refine lv_iconst (v := 1) hx hb dX6_head_90 (by decide) ?_
      refine lv_isub hx hb dX6_head_91 ?_
      refine callSE (As := [.int h, .int (wh - 1)]) (rest := [.ref (am 1)]) ⟨hx, hb, hml, hown, hts⟩ (c_X6_of h (wh - 1)) (va_cwS 2 hts gX6_head_X6_of rfl rfl rfl (by decide +kernel) ⟨Nat.le_of_ble_eq_true rfl, Nat.le_of_ble_eq_true rfl⟩) hK hN rfl hl.1 rfl (Nat.le_of_ble_eq_true rfl) dX6_head_92 ⟨Nat.zero_le _, Nat.zero_le _⟩ ?_
      refine xald (x := qv (Y 0) 1 h) hx hb hK hP 1 rfl (oH_in (n := 1) hh (by rw [s_11_2]; exact ⟨by decide, by omega⟩)) (row_oH hh (by rw [s_11_2]; exact ⟨by decide, by omega⟩)) dX6_head_95 ?_
      exact retE hx hb hr hlocks dX6_head_96 (by first | (unfold v_head; (repeat (first | rw [ci_t c_2] | rw [ci_f c_2] | rw [ci_t s_11_2] | rw [ci_f s_11_2] | rw [ci_t s_11_0] | rw [ci_f s_11_0] | rw [ci_t s_11_1] | rw [ci_f s_11_1])); done) | (unfold v_head; (repeat (first | rw [ci_t c_2] | rw [ci_f c_2] | rw [ci_t s_11_2] | rw [ci_f s_11_2] | rw [ci_t s_11_0] | rw [ci_f s_11_0] | rw [ci_t s_11_1] | rw [ci_f s_11_1])); exact (free_fr c_2).symm))
    by_cases s_11_3 : wh = 3
    · refine lv_tableIn (off := 73) (tgt := 84) hx hb dX6_head_11 (by rw [s_11_3]; decide) (by rw [s_11_3]; decide) (by rw [s_11_3]; rfl) (by decide) ?_
      refine lv_aload_n hx hb dX6_head_84 rfl (lv_at hl 0 rfl) ?_
      refine xget (C := RX6) (T := TX6) (N := 10) (ci := 6) (w := .ref (am 1)) hx hb hts hi_X6 hown hK hP 0 rfl rfl 0 (by decide) lk_7 rfl dX6_head_85 ?_
      refine lv_iload_n hx hb dX6_head_88 rfl (lv_at hl 1 rfl) ?_
      refine lv_iload_n hx hb dX6_head_89 rfl (lv_at hl 2 rfl) ?_
      refine lv_iconst (v := 1) hx hb dX6_head_90 (by decide) ?_
      refine lv_isub hx hb dX6_head_91 ?_
      refine callSE (As := [.int h, .int (wh - 1)]) (rest := [.ref (am 1)]) ⟨hx, hb, hml, hown, hts⟩ (c_X6_of h (wh - 1)) (va_cwS 2 hts gX6_head_X6_of rfl rfl rfl (by decide +kernel) ⟨Nat.le_of_ble_eq_true rfl, Nat.le_of_ble_eq_true rfl⟩) hK hN rfl hl.1 rfl (Nat.le_of_ble_eq_true rfl) dX6_head_92 ⟨Nat.zero_le _, Nat.zero_le _⟩ ?_
      refine xald (x := qv (Y 0) 2 h) hx hb hK hP 1 rfl (oH_in (n := 2) hh (by rw [s_11_3]; exact ⟨by decide, by omega⟩)) (row_oH hh (by rw [s_11_3]; exact ⟨by decide, by omega⟩)) dX6_head_95 ?_
      exact retE hx hb hr hlocks dX6_head_96 (by first | (unfold v_head; (repeat (first | rw [ci_t c_2] | rw [ci_f c_2] | rw [ci_t s_11_3] | rw [ci_f s_11_3] | rw [ci_t s_11_0] | rw [ci_f s_11_0] | rw [ci_t s_11_1] | rw [ci_f s_11_1] | rw [ci_t s_11_2] | rw [ci_f s_11_2])); done) | (unfold v_head; (repeat (first | rw [ci_t c_2] | rw [ci_f c_2] | rw [ci_t s_11_3] | rw [ci_f s_11_3] | rw [ci_t s_11_0] | rw [ci_f s_11_0] | rw [ci_t s_11_1] | rw [ci_f s_11_1] | rw [ci_t s_11_2] | rw [ci_f s_11_2])); exact (free_fr c_2).symm))
    by_cases s_11_4 : wh = 4
    · refine lv_tableIn (off := 86) (tgt := 97) hx hb dX6_head_11 (by rw [s_11_4]; decide) (by rw [s_11_4]; decide) (by rw [s_11_4]; rfl) (by decide) ?_
      refine lv_aload_n hx hb dX6_head_97 rfl (lv_at hl 0 rfl) ?_
      refine lv_iload_n hx hb dX6_head_98 rfl (lv_at hl 1 rfl) ?_
      refine callB (As := [.int h]) (rest := []) ⟨hx, hb, hml, hown, hts⟩ (c_X6_isBarred Y hok h (by assumption)) (cwV 1 hts gX6_head_X6_isBarred rfl rfl rfl (by decide +kernel) ⟨Nat.le_of_ble_eq_true rfl, Nat.le_of_ble_eq_true rfl⟩) hK hN hP 0 rfl rfl rfl hl.1 rfl (Nat.le_of_ble_eq_true rfl) dX6_head_99 ⟨Nat.zero_le _, Nat.zero_le _⟩ (fun c_99 => ?_) (fun c_99 => ?_)
      · refine lv_if_eq (tgt := 109) hx hb dX6_head_102 (by decide) (fun h9 => absurd h9 (by decide)) (fun _ => ?_)
        refine lv_iconst (v := 1) hx hb dX6_head_105 (by decide) ?_
        refine lv_goto (tgt := 110) hx hb dX6_head_106 (by decide) ?_
        exact retE hx hb hr hlocks dX6_head_110 (by first | (unfold v_head; (repeat (first | rw [ci_t c_2] | rw [ci_f c_2] | rw [ci_t s_11_4] | rw [ci_f s_11_4] | rw [ci_t s_11_0] | rw [ci_f s_11_0] | rw [ci_t s_11_1] | rw [ci_f s_11_1] | rw [ci_t s_11_2] | rw [ci_f s_11_2] | rw [ci_t s_11_3] | rw [ci_f s_11_3] | rw [ci_t c_99] | rw [ci_f c_99])); done) | (unfold v_head; (repeat (first | rw [ci_t c_2] | rw [ci_f c_2] | rw [ci_t s_11_4] | rw [ci_f s_11_4] | rw [ci_t s_11_0] | rw [ci_f s_11_0] | rw [ci_t s_11_1] | rw [ci_f s_11_1] | rw [ci_t s_11_2] | rw [ci_f s_11_2] | rw [ci_t s_11_3] | rw [ci_f s_11_3] | rw [ci_t c_99] | rw [ci_f c_99])); exact (free_fr c_2).symm))
      · refine lv_if_eq (tgt := 109) hx hb dX6_head_102 (by decide) (fun _ => ?_) (fun h9 => absurd (by decide) h9)
        refine lv_iconst (v := 0) hx hb dX6_head_109 (by decide) ?_
        exact retE hx hb hr hlocks dX6_head_110 (by first | (unfold v_head; (repeat (first | rw [ci_t c_2] | rw [ci_f c_2] | rw [ci_t s_11_4] | rw [ci_f s_11_4] | rw [ci_t s_11_0] | rw [ci_f s_11_0] | rw [ci_t s_11_1] | rw [ci_f s_11_1] | rw [ci_t s_11_2] | rw [ci_f s_11_2] | rw [ci_t s_11_3] | rw [ci_f s_11_3] | rw [ci_t c_99] | rw [ci_f c_99])); done) | (unfold v_head; (repeat (first | rw [ci_t c_2] | rw [ci_f c_2] | rw [ci_t s_11_4] | rw [ci_f s_11_4] | rw [ci_t s_11_0] | rw [ci_f s_11_0] | rw [ci_t s_11_1] | rw [ci_f s_11_1] | rw [ci_t s_11_2] | rw [ci_f s_11_2] | rw [ci_t s_11_3] | rw [ci_f s_11_3] | rw [ci_t c_99] | rw [ci_f c_99])); exact (free_fr c_2).symm))
    by_cases s_11_5 : wh = 5
    · refine lv_tableIn (off := 100) (tgt := 111) hx hb dX6_head_11 (by rw [s_11_5]; decide) (by rw [s_11_5]; decide) (by rw [s_11_5]; rfl) (by decide) ?_
      refine lv_aload_n hx hb dX6_head_111 rfl (lv_at hl 0 rfl) ?_
      refine xget (C := RX6) (T := TX6) (N := 10) (ci := 6) (w := .ref (am 1)) hx hb hts hi_X6 hown hK hP 0 rfl rfl 0 (by decide) lk_7 rfl dX6_head_112 ?_
      refine lv_iload_n hx hb dX6_head_115 rfl (lv_at hl 1 rfl) ?_
      refine lv_iload_n hx hb dX6_head_116 rfl (lv_at hl 2 rfl) ?_
      refine lv_iconst (v := 2) hx hb dX6_head_117 (by decide) ?_
      refine lv_isub hx hb dX6_head_118 ?_
      refine callSE (As := [.int h, .int (wh - 2)]) (rest := [.ref (am 1)]) ⟨hx, hb, hml, hown, hts⟩ (c_X6_of h (wh - 2)) (va_cwS 2 hts gX6_head_X6_of rfl rfl rfl (by decide +kernel) ⟨Nat.le_of_ble_eq_true rfl, Nat.le_of_ble_eq_true rfl⟩) hK hN rfl hl.1 rfl (Nat.le_of_ble_eq_true rfl) dX6_head_119 ⟨Nat.zero_le _, Nat.zero_le _⟩ ?_
      refine xald (x := qv (Y 0) 3 h) hx hb hK hP 1 rfl (oH_in (n := 3) hh (by rw [s_11_5]; exact ⟨by decide, by omega⟩)) (row_oH hh (by rw [s_11_5]; exact ⟨by decide, by omega⟩)) dX6_head_122 ?_
      exact retE hx hb hr hlocks dX6_head_123 (by first | (unfold v_head; (repeat (first | rw [ci_t c_2] | rw [ci_f c_2] | rw [ci_t s_11_5] | rw [ci_f s_11_5] | rw [ci_t s_11_0] | rw [ci_f s_11_0] | rw [ci_t s_11_1] | rw [ci_f s_11_1] | rw [ci_t s_11_2] | rw [ci_f s_11_2] | rw [ci_t s_11_3] | rw [ci_f s_11_3] | rw [ci_t s_11_4] | rw [ci_f s_11_4])); done) | (unfold v_head; (repeat (first | rw [ci_t c_2] | rw [ci_f c_2] | rw [ci_t s_11_5] | rw [ci_f s_11_5] | rw [ci_t s_11_0] | rw [ci_f s_11_0] | rw [ci_t s_11_1] | rw [ci_f s_11_1] | rw [ci_t s_11_2] | rw [ci_f s_11_2] | rw [ci_t s_11_3] | rw [ci_f s_11_3] | rw [ci_t s_11_4] | rw [ci_f s_11_4])); exact (free_fr c_2).symm))
    by_cases s_11_6 : wh = 6
    · refine lv_tableIn (off := 100) (tgt := 111) hx hb dX6_head_11 (by rw [s_11_6]; decide) (by rw [s_11_6]; decide) (by rw [s_11_6]; rfl) (by decide) ?_
      refine lv_aload_n hx hb dX6_head_111 rfl (lv_at hl 0 rfl) ?_
      refine xget (C := RX6) (T := TX6) (N := 10) (ci := 6) (w := .ref (am 1)) hx hb hts hi_X6 hown hK hP 0 rfl rfl 0 (by decide) lk_7 rfl dX6_head_112 ?_
      refine lv_iload_n hx hb dX6_head_115 rfl (lv_at hl 1 rfl) ?_
      refine lv_iload_n hx hb dX6_head_116 rfl (lv_at hl 2 rfl) ?_
      refine lv_iconst (v := 2) hx hb dX6_head_117 (by decide) ?_
      refine lv_isub hx hb dX6_head_118 ?_
      refine callSE (As := [.int h, .int (wh - 2)]) (rest := [.ref (am 1)]) ⟨hx, hb, hml, hown, hts⟩ (c_X6_of h (wh - 2)) (va_cwS 2 hts gX6_head_X6_of rfl rfl rfl (by decide +kernel) ⟨Nat.le_of_ble_eq_true rfl, Nat.le_of_ble_eq_true rfl⟩) hK hN rfl hl.1 rfl (Nat.le_of_ble_eq_true rfl) dX6_head_119 ⟨Nat.zero_le _, Nat.zero_le _⟩ ?_
      refine xald (x := qv (Y 0) 4 h) hx hb hK hP 1 rfl (oH_in (n := 4) hh (by rw [s_11_6]; exact ⟨by decide, by omega⟩)) (row_oH hh (by rw [s_11_6]; exact ⟨by decide, by omega⟩)) dX6_head_122 ?_
      exact retE hx hb hr hlocks dX6_head_123 (by first | (unfold v_head; (repeat (first | rw [ci_t c_2] | rw [ci_f c_2] | rw [ci_t s_11_6] | rw [ci_f s_11_6] | rw [ci_t s_11_0] | rw [ci_f s_11_0] | rw [ci_t s_11_1] | rw [ci_f s_11_1] | rw [ci_t s_11_2] | rw [ci_f s_11_2] | rw [ci_t s_11_3] | rw [ci_f s_11_3] | rw [ci_t s_11_4] | rw [ci_f s_11_4] | rw [ci_t s_11_5] | rw [ci_f s_11_5])); done) | (unfold v_head; (repeat (first | rw [ci_t c_2] | rw [ci_f c_2] | rw [ci_t s_11_6] | rw [ci_f s_11_6] | rw [ci_t s_11_0] | rw [ci_f s_11_0] | rw [ci_t s_11_1] | rw [ci_f s_11_1] | rw [ci_t s_11_2] | rw [ci_f s_11_2] | rw [ci_t s_11_3] | rw [ci_f s_11_3] | rw [ci_t s_11_4] | rw [ci_f s_11_4] | rw [ci_t s_11_5] | rw [ci_f s_11_5])); exact (free_fr c_2).symm))
    by_cases s_11_7 : wh = 7
    · refine lv_tableIn (off := 100) (tgt := 111) hx hb dX6_head_11 (by rw [s_11_7]; decide) (by rw [s_11_7]; decide) (by rw [s_11_7]; rfl) (by decide) ?_
      refine lv_aload_n hx hb dX6_head_111 rfl (lv_at hl 0 rfl) ?_
      refine xget (C := RX6) (T := TX6) (N := 10) (ci := 6) (w := .ref (am 1)) hx hb hts hi_X6 hown hK hP 0 rfl rfl 0 (by decide) lk_7 rfl dX6_head_112 ?_
      refine lv_iload_n hx hb dX6_head_115 rfl (lv_at hl 1 rfl) ?_
      refine lv_iload_n hx hb dX6_head_116 rfl (lv_at hl 2 rfl) ?_
      refine lv_iconst (v := 2) hx hb dX6_head_117 (by decide) ?_
      refine lv_isub hx hb dX6_head_118 ?_
      refine callSE (As := [.int h, .int (wh - 2)]) (rest := [.ref (am 1)]) ⟨hx, hb, hml, hown, hts⟩ (c_X6_of h (wh - 2)) (va_cwS 2 hts gX6_head_X6_of rfl rfl rfl (by decide +kernel) ⟨Nat.le_of_ble_eq_true rfl, Nat.le_of_ble_eq_true rfl⟩) hK hN rfl hl.1 rfl (Nat.le_of_ble_eq_true rfl) dX6_head_119 ⟨Nat.zero_le _, Nat.zero_le _⟩ ?_
      refine xald (x := qv (Y 0) 5 h) hx hb hK hP 1 rfl (oH_in (n := 5) hh (by rw [s_11_7]; exact ⟨by decide, by omega⟩)) (row_oH hh (by rw [s_11_7]; exact ⟨by decide, by omega⟩)) dX6_head_122 ?_
      exact retE hx hb hr hlocks dX6_head_123 (by first | (unfold v_head; (repeat (first | rw [ci_t c_2] | rw [ci_f c_2] | rw [ci_t s_11_7] | rw [ci_f s_11_7] | rw [ci_t s_11_0] | rw [ci_f s_11_0] | rw [ci_t s_11_1] | rw [ci_f s_11_1] | rw [ci_t s_11_2] | rw [ci_f s_11_2] | rw [ci_t s_11_3] | rw [ci_f s_11_3] | rw [ci_t s_11_4] | rw [ci_f s_11_4] | rw [ci_t s_11_5] | rw [ci_f s_11_5] | rw [ci_t s_11_6] | rw [ci_f s_11_6])); done) | (unfold v_head; (repeat (first | rw [ci_t c_2] | rw [ci_f c_2] | rw [ci_t s_11_7] | rw [ci_f s_11_7] | rw [ci_t s_11_0] | rw [ci_f s_11_0] | rw [ci_t s_11_1] | rw [ci_f s_11_1] | rw [ci_t s_11_2] | rw [ci_f s_11_2] | rw [ci_t s_11_3] | rw [ci_f s_11_3] | rw [ci_t s_11_4] | rw [ci_f s_11_4] | rw [ci_t s_11_5] | rw [ci_f s_11_5] | rw [ci_t s_11_6] | rw [ci_f s_11_6])); exact (free_fr c_2).symm))
    by_cases s_11_8 : wh = 8
    · refine lv_tableIn (off := 113) (tgt := 124) hx hb dX6_head_11 (by rw [s_11_8]; decide) (by rw [s_11_8]; decide) (by rw [s_11_8]; rfl) (by decide) ?_
      refine lv_aload_n hx hb dX6_head_124 rfl (lv_at hl 0 rfl) ?_
      refine lv_iload_n hx hb dX6_head_125 rfl (lv_at hl 1 rfl) ?_
      refine callE (As := [.int h]) (rest := []) ⟨hx, hb, hml, hown, hts⟩ (c_X6_free Y h (by assumption)) (cwV 1 hts gX6_head_X6_free rfl rfl rfl (by decide +kernel) ⟨Nat.le_of_ble_eq_true rfl, Nat.le_of_ble_eq_true rfl⟩) hK hN hP 0 rfl rfl rfl hl.1 rfl (Nat.le_of_ble_eq_true rfl) dX6_head_126 ⟨Nat.zero_le _, Nat.zero_le _⟩ ?_
      exact retE hx hb hr hlocks dX6_head_129 (by first | (unfold v_head; (repeat (first | rw [ci_t c_2] | rw [ci_f c_2] | rw [ci_t s_11_8] | rw [ci_f s_11_8] | rw [ci_t s_11_0] | rw [ci_f s_11_0] | rw [ci_t s_11_1] | rw [ci_f s_11_1] | rw [ci_t s_11_2] | rw [ci_f s_11_2] | rw [ci_t s_11_3] | rw [ci_f s_11_3] | rw [ci_t s_11_4] | rw [ci_f s_11_4] | rw [ci_t s_11_5] | rw [ci_f s_11_5] | rw [ci_t s_11_6] | rw [ci_f s_11_6] | rw [ci_t s_11_7] | rw [ci_f s_11_7])); done) | (unfold v_head; (repeat (first | rw [ci_t c_2] | rw [ci_f c_2] | rw [ci_t s_11_8] | rw [ci_f s_11_8] | rw [ci_t s_11_0] | rw [ci_f s_11_0] | rw [ci_t s_11_1] | rw [ci_f s_11_1] | rw [ci_t s_11_2] | rw [ci_f s_11_2] | rw [ci_t s_11_3] | rw [ci_f s_11_3] | rw [ci_t s_11_4] | rw [ci_f s_11_4] | rw [ci_t s_11_5] | rw [ci_f s_11_5] | rw [ci_t s_11_6] | rw [ci_f s_11_6] | rw [ci_t s_11_7] | rw [ci_f s_11_7])); exact (free_fr c_2).symm))
    by_cases s_11_9 : wh = 9
    · refine lv_tableIn (off := 119) (tgt := 130) hx hb dX6_head_11 (by rw [s_11_9]; decide) (by rw [s_11_9]; decide) (by rw [s_11_9]; rfl) (by decide) ?_
      refine lv_aload_n hx hb dX6_head_130 rfl (lv_at hl 0 rfl) ?_
      refine xget (C := RX6) (T := TX6) (N := 10) (ci := 6) (w := .ref (am 1)) hx hb hts hi_X6 hown hK hP 0 rfl rfl 0 (by decide) lk_7 rfl dX6_head_131 ?_
      refine lv_iload_n hx hb dX6_head_134 rfl (lv_at hl 1 rfl) ?_
      refine lv_iload_n hx hb dX6_head_135 rfl (lv_at hl 2 rfl) ?_
      refine lv_iconst (v := 3) hx hb dX6_head_136 (by decide) ?_
      refine lv_isub hx hb dX6_head_137 ?_
      refine callSE (As := [.int h, .int (wh - 3)]) (rest := [.ref (am 1)]) ⟨hx, hb, hml, hown, hts⟩ (c_X6_of h (wh - 3)) (va_cwS 2 hts gX6_head_X6_of rfl rfl rfl (by decide +kernel) ⟨Nat.le_of_ble_eq_true rfl, Nat.le_of_ble_eq_true rfl⟩) hK hN rfl hl.1 rfl (Nat.le_of_ble_eq_true rfl) dX6_head_138 ⟨Nat.zero_le _, Nat.zero_le _⟩ ?_
      refine xald (x := qv (Y 0) 6 h) hx hb hK hP 1 rfl (oH_in (n := 6) hh (by rw [s_11_9]; exact ⟨by decide, by omega⟩)) (row_oH hh (by rw [s_11_9]; exact ⟨by decide, by omega⟩)) dX6_head_141 ?_
      exact retE hx hb hr hlocks dX6_head_142 (by first | (unfold v_head; (repeat (first | rw [ci_t c_2] | rw [ci_f c_2] | rw [ci_t s_11_9] | rw [ci_f s_11_9] | rw [ci_t s_11_0] | rw [ci_f s_11_0] | rw [ci_t s_11_1] | rw [ci_f s_11_1] | rw [ci_t s_11_2] | rw [ci_f s_11_2] | rw [ci_t s_11_3] | rw [ci_f s_11_3] | rw [ci_t s_11_4] | rw [ci_f s_11_4] | rw [ci_t s_11_5] | rw [ci_f s_11_5] | rw [ci_t s_11_6] | rw [ci_f s_11_6] | rw [ci_t s_11_7] | rw [ci_f s_11_7] | rw [ci_t s_11_8] | rw [ci_f s_11_8])); done) | (unfold v_head; (repeat (first | rw [ci_t c_2] | rw [ci_f c_2] | rw [ci_t s_11_9] | rw [ci_f s_11_9] | rw [ci_t s_11_0] | rw [ci_f s_11_0] | rw [ci_t s_11_1] | rw [ci_f s_11_1] | rw [ci_t s_11_2] | rw [ci_f s_11_2] | rw [ci_t s_11_3] | rw [ci_f s_11_3] | rw [ci_t s_11_4] | rw [ci_f s_11_4] | rw [ci_t s_11_5] | rw [ci_f s_11_5] | rw [ci_t s_11_6] | rw [ci_f s_11_6] | rw [ci_t s_11_7] | rw [ci_f s_11_7] | rw [ci_t s_11_8] | rw [ci_f s_11_8])); exact (free_fr c_2).symm))
    by_cases s_11_10 : wh = 10
    · refine lv_tableIn (off := 119) (tgt := 130) hx hb dX6_head_11 (by rw [s_11_10]; decide) (by rw [s_11_10]; decide) (by rw [s_11_10]; rfl) (by decide) ?_
      refine lv_aload_n hx hb dX6_head_130 rfl (lv_at hl 0 rfl) ?_
      refine xget (C := RX6) (T := TX6) (N := 10) (ci := 6) (w := .ref (am 1)) hx hb hts hi_X6 hown hK hP 0 rfl rfl 0 (by decide) lk_7 rfl dX6_head_131 ?_
      refine lv_iload_n hx hb dX6_head_134 rfl (lv_at hl 1 rfl) ?_
      refine lv_iload_n hx hb dX6_head_135 rfl (lv_at hl 2 rfl) ?_
      refine lv_iconst (v := 3) hx hb dX6_head_136 (by decide) ?_
      refine lv_isub hx hb dX6_head_137 ?_
      refine callSE (As := [.int h, .int (wh - 3)]) (rest := [.ref (am 1)]) ⟨hx, hb, hml, hown, hts⟩ (c_X6_of h (wh - 3)) (va_cwS 2 hts gX6_head_X6_of rfl rfl rfl (by decide +kernel) ⟨Nat.le_of_ble_eq_true rfl, Nat.le_of_ble_eq_true rfl⟩) hK hN rfl hl.1 rfl (Nat.le_of_ble_eq_true rfl) dX6_head_138 ⟨Nat.zero_le _, Nat.zero_le _⟩ ?_
      refine xald (x := qv (Y 0) 7 h) hx hb hK hP 1 rfl (oH_in (n := 7) hh (by rw [s_11_10]; exact ⟨by decide, by omega⟩)) (row_oH hh (by rw [s_11_10]; exact ⟨by decide, by omega⟩)) dX6_head_141 ?_
      exact retE hx hb hr hlocks dX6_head_142 (by first | (unfold v_head; (repeat (first | rw [ci_t c_2] | rw [ci_f c_2] | rw [ci_t s_11_10] | rw [ci_f s_11_10] | rw [ci_t s_11_0] | rw [ci_f s_11_0] | rw [ci_t s_11_1] | rw [ci_f s_11_1] | rw [ci_t s_11_2] | rw [ci_f s_11_2] | rw [ci_t s_11_3] | rw [ci_f s_11_3] | rw [ci_t s_11_4] | rw [ci_f s_11_4] | rw [ci_t s_11_5] | rw [ci_f s_11_5] | rw [ci_t s_11_6] | rw [ci_f s_11_6] | rw [ci_t s_11_7] | rw [ci_f s_11_7] | rw [ci_t s_11_8] | rw [ci_f s_11_8] | rw [ci_t s_11_9] | rw [ci_f s_11_9])); done) | (unfold v_head; (repeat (first | rw [ci_t c_2] | rw [ci_f c_2] | rw [ci_t s_11_10] | rw [ci_f s_11_10] | rw [ci_t s_11_0] | rw [ci_f s_11_0] | rw [ci_t s_11_1] | rw [ci_f s_11_1] | rw [ci_t s_11_2] | rw [ci_f s_11_2] | rw [ci_t s_11_3] | rw [ci_f s_11_3] | rw [ci_t s_11_4] | rw [ci_f s_11_4] | rw [ci_t s_11_5] | rw [ci_f s_11_5] | rw [ci_t s_11_6] | rw [ci_f s_11_6] | rw [ci_t s_11_7] | rw [ci_f s_11_7] | rw [ci_t s_11_8] | rw [ci_f s_11_8] | rw [ci_t s_11_9] | rw [ci_f s_11_9])); exact (free_fr c_2).symm))
    by_cases s_11_11 : wh = 11
    · refine lv_tableIn (off := 119) (tgt := 130) hx hb dX6_head_11 (by rw [s_11_11]; decide) (by rw [s_11_11]; decide) (by rw [s_11_11]; rfl) (by decide) ?_
      refine lv_aload_n hx hb dX6_head_130 rfl (lv_at hl 0 rfl) ?_
      refine xget (C := RX6) (T := TX6) (N := 10) (ci := 6) (w := .ref (am 1)) hx hb hts hi_X6 hown hK hP 0 rfl rfl 0 (by decide) lk_7 rfl dX6_head_131 ?_
      refine lv_iload_n hx hb dX6_head_134 rfl (lv_at hl 1 rfl) ?_
      refine lv_iload_n hx hb dX6_head_135 rfl (lv_at hl 2 rfl) ?_
      refine lv_iconst (v := 3) hx hb dX6_head_136 (by decide) ?_
      refine lv_isub hx hb dX6_head_137 ?_
      refine callSE (As := [.int h, .int (wh - 3)]) (rest := [.ref (am 1)]) ⟨hx, hb, hml, hown, hts⟩ (c_X6_of h (wh - 3)) (va_cwS 2 hts gX6_head_X6_of rfl rfl rfl (by decide +kernel) ⟨Nat.le_of_ble_eq_true rfl, Nat.le_of_ble_eq_true rfl⟩) hK hN rfl hl.1 rfl (Nat.le_of_ble_eq_true rfl) dX6_head_138 ⟨Nat.zero_le _, Nat.zero_le _⟩ ?_
      refine xald (x := qv (Y 0) 8 h) hx hb hK hP 1 rfl (oH_in (n := 8) hh (by rw [s_11_11]; exact ⟨by decide, by omega⟩)) (row_oH hh (by rw [s_11_11]; exact ⟨by decide, by omega⟩)) dX6_head_141 ?_
      exact retE hx hb hr hlocks dX6_head_142 (by first | (unfold v_head; (repeat (first | rw [ci_t c_2] | rw [ci_f c_2] | rw [ci_t s_11_11] | rw [ci_f s_11_11] | rw [ci_t s_11_0] | rw [ci_f s_11_0] | rw [ci_t s_11_1] | rw [ci_f s_11_1] | rw [ci_t s_11_2] | rw [ci_f s_11_2] | rw [ci_t s_11_3] | rw [ci_f s_11_3] | rw [ci_t s_11_4] | rw [ci_f s_11_4] | rw [ci_t s_11_5] | rw [ci_f s_11_5] | rw [ci_t s_11_6] | rw [ci_f s_11_6] | rw [ci_t s_11_7] | rw [ci_f s_11_7] | rw [ci_t s_11_8] | rw [ci_f s_11_8] | rw [ci_t s_11_9] | rw [ci_f s_11_9] | rw [ci_t s_11_10] | rw [ci_f s_11_10])); done) | (unfold v_head; (repeat (first | rw [ci_t c_2] | rw [ci_f c_2] | rw [ci_t s_11_11] | rw [ci_f s_11_11] | rw [ci_t s_11_0] | rw [ci_f s_11_0] | rw [ci_t s_11_1] | rw [ci_f s_11_1] | rw [ci_t s_11_2] | rw [ci_f s_11_2] | rw [ci_t s_11_3] | rw [ci_f s_11_3] | rw [ci_t s_11_4] | rw [ci_f s_11_4] | rw [ci_t s_11_5] | rw [ci_f s_11_5] | rw [ci_t s_11_6] | rw [ci_f s_11_6] | rw [ci_t s_11_7] | rw [ci_f s_11_7] | rw [ci_t s_11_8] | rw [ci_f s_11_8] | rw [ci_t s_11_9] | rw [ci_f s_11_9] | rw [ci_t s_11_10] | rw [ci_f s_11_10])); exact (free_fr c_2).symm))
    have h9 : (wh).toInt < 0 ∨ 11 < (wh).toInt := by
      have q_0 := lv_neT (a := 0) s_11_0 rfl
      have q_1 := lv_neT (a := 1) s_11_1 rfl
      have q_2 := lv_neT (a := 2) s_11_2 rfl
      have q_3 := lv_neT (a := 3) s_11_3 rfl
      have q_4 := lv_neT (a := 4) s_11_4 rfl
      have q_5 := lv_neT (a := 5) s_11_5 rfl
      have q_6 := lv_neT (a := 6) s_11_6 rfl
      have q_7 := lv_neT (a := 7) s_11_7 rfl
      have q_8 := lv_neT (a := 8) s_11_8 rfl
      have q_9 := lv_neT (a := 9) s_11_9 rfl
      have q_10 := lv_neT (a := 10) s_11_10 rfl
      have q_11 := lv_neT (a := 11) s_11_11 rfl
      omega
    refine lv_tableOut (tgt := 143) hx hb dX6_head_11 h9 (by decide) ?_
    refine lv_iconst (v := (-1)) hx hb dX6_head_143 (by decide) ?_
    exact retE hx hb hr hlocks dX6_head_144 (by first | (unfold v_head; (repeat (first | rw [ci_t c_2] | rw [ci_f c_2] | rw [ci_t s_11_0] | rw [ci_f s_11_0] | rw [ci_t s_11_1] | rw [ci_f s_11_1] | rw [ci_t s_11_2] | rw [ci_f s_11_2] | rw [ci_t s_11_3] | rw [ci_f s_11_3] | rw [ci_t s_11_4] | rw [ci_f s_11_4] | rw [ci_t s_11_5] | rw [ci_f s_11_5] | rw [ci_t s_11_6] | rw [ci_f s_11_6] | rw [ci_t s_11_7] | rw [ci_f s_11_7] | rw [ci_t s_11_8] | rw [ci_f s_11_8] | rw [ci_t s_11_9] | rw [ci_f s_11_9] | rw [ci_t s_11_10] | rw [ci_f s_11_10] | rw [ci_t s_11_11] | rw [ci_f s_11_11])); done) | (unfold v_head; (repeat (first | rw [ci_t c_2] | rw [ci_f c_2] | rw [ci_t s_11_0] | rw [ci_f s_11_0] | rw [ci_t s_11_1] | rw [ci_f s_11_1] | rw [ci_t s_11_2] | rw [ci_f s_11_2] | rw [ci_t s_11_3] | rw [ci_f s_11_3] | rw [ci_t s_11_4] | rw [ci_f s_11_4] | rw [ci_t s_11_5] | rw [ci_f s_11_5] | rw [ci_t s_11_6] | rw [ci_f s_11_6] | rw [ci_t s_11_7] | rw [ci_f s_11_7] | rw [ci_t s_11_8] | rw [ci_f s_11_8] | rw [ci_t s_11_9] | rw [ci_f s_11_9] | rw [ci_t s_11_10] | rw [ci_f s_11_10] | rw [ci_t s_11_11] | rw [ci_f s_11_11])); exact (free_fr c_2).symm))
  · refine lv_if_ne (tgt := 10) hx hb dX6_head_5 (by decide) (fun h9 => absurd (by decide) h9) (fun _ => ?_)
    refine lv_iconst (v := (-1)) hx hb dX6_head_8 (by decide) ?_
    exact retE hx hb hr hlocks dX6_head_9 (by first | (unfold v_head; (repeat (first | rw [ci_t c_2] | rw [ci_f c_2])); done) | (unfold v_head; (repeat (first | rw [ci_t c_2] | rw [ci_f c_2])); exact (free_fr c_2).symm))
set_option maxHeartbeats 4000000 in
set_option maxRecDepth 100000 in
theorem c_X6_deed {l : Launch} {D : va_G} {cI cR : ClassId} {am : Nat → Nat} (Y : St) (i : Int32) (n : Nat) (hn : n ≤ 12) (hd : Y 14 0 0 = nI n) : RoE l D cI cR (wM cI am Y) yX6_deed wsX6_deed ({ frames := 0, cells := 0, slots := 0, locals := 0 } : Room) [.ref (am 0), .int i] (V_deedM Y i) := by
  refine OfW (cc := cX6_deed) (maxL := 2) (ret := (some .int)) (by decide +kernel) rfl (Nat.le_of_ble_eq_true rfl) (fun p e s m below meth c hx hb hr hts hown hlocks hml hnm hP hK hN ls hl => ?_)
  have hl : lv_has ls 2 [(0, .ref (am 0)), (1, .int i)] := hl
  have lk_47 := hts (.fieldLink RX6 47 "HeadBudgetsModel" "deeds" "I") (by decide +kernel)
  have lk_13 := hts (.fieldLink RX6 13 "HeadBudgetsModel" "kinds" "[I") (by decide +kernel)
  have hi_X6 : ∀ w ∈ wsX60, w ∈ wsX6_deed := by decide +kernel
  refine lv_iload_n hx hb dX6_deed_0 rfl (lv_at hl 1 rfl) ?_
  refine lv_if_ge (tgt := 6) hx hb dX6_deed_1 (by decide) (fun c_1 => ?_) (fun c_1 => ?_)
  · refine lv_iload_n hx hb dX6_deed_6 rfl (lv_at hl 1 rfl) ?_
    refine lv_aload_n hx hb dX6_deed_7 rfl (lv_at hl 0 rfl) ?_
    refine xget (C := RX6) (T := TX6) (N := 10) (ci := 6) (w := .int (Y 14 0 0)) hx hb hts hi_X6 hown hK hP 0 rfl rfl 1 (by decide) lk_47 rfl dX6_deed_8 ?_
    refine lv_icmp_ge (tgt := 30) hx hb dX6_deed_11 (by decide) (fun c_11 => ?_) (fun c_11 => ?_)
    · refine lv_bipush (v := (-9)) hx hb dX6_deed_30 (by decide) ?_
      exact retE hx hb hr hlocks dX6_deed_32 (by first | rfl | (unfold V_deedM; repeat (first | rw [ci_t c_1] | rw [ci_f c_1] | rw [ci_t c_11] | rw [ci_f c_11])))
    · refine lv_aload_n hx hb dX6_deed_14 rfl (lv_at hl 0 rfl) ?_
      refine xget (C := RX6) (T := TX6) (N := 10) (ci := 6) (w := .ref (am 2)) hx hb hts hi_X6 hown hK hP 0 rfl rfl 3 (by decide) lk_13 rfl dX6_deed_15 ?_
      refine lv_aload_n hx hb dX6_deed_18 rfl (lv_at hl 0 rfl) ?_
      refine xget (C := RX6) (T := TX6) (N := 10) (ci := 6) (w := .int (Y 14 0 0)) hx hb hts hi_X6 hown hK hP 0 rfl rfl 1 (by decide) lk_47 rfl dX6_deed_19 ?_
      refine lv_iconst (v := 1) hx hb dX6_deed_22 (by decide) ?_
      refine lv_isub hx hb dX6_deed_23 ?_
      refine lv_iload_n hx hb dX6_deed_24 rfl (lv_at hl 1 rfl) ?_
      refine lv_isub hx hb dX6_deed_25 ?_
      refine xald (x := Y 13 0 (((Y 14 0 0) - 1) - i).toNatClampNeg) hx hb hK hP 2 rfl (dIdx_in hd hn c_1 c_11) rfl dX6_deed_26 ?_
      refine lv_goto (tgt := 32) hx hb dX6_deed_27 (by decide) ?_
      exact retE hx hb hr hlocks dX6_deed_32 (by first | rfl | (unfold V_deedM; repeat (first | rw [ci_t c_1] | rw [ci_f c_1] | rw [ci_t c_11] | rw [ci_f c_11])))
  · refine lv_iconst (v := (-1)) hx hb dX6_deed_4 (by decide) ?_
    exact retE hx hb hr hlocks dX6_deed_5 (by first | rfl | (unfold V_deedM; repeat (first | rw [ci_t c_1] | rw [ci_f c_1])))
