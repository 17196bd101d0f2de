set_option maxHeartbeats 4000000 in
set_option maxRecDepth 100000 in
theorem c_X6_copy {l : Launch} {D : va_G} {cI cR : ClassId} {am : Nat → Nat} (hdj : Dj 9 am) (Y : St) (xf : Int32) (xt : Int32) (tf tt : Nat) (hf : tf < 13) (ht : tt < 13) (hne : ¬ tf = tt) (ef : xf = nI (346 * tf)) (et : xt = nI (346 * tt)) : WoV l D cI cR (Aw 9 am) (wM cI am Y) (wM cI am (sg Y tt (Y tf))) yX6_copy wsX6_copy ({ frames := 0, cells := 0, slots := 0, locals := 0 } : Room) [.ref (am 0), .int xf, .int xt] := by
  refine OfW (cc := cX6_copy) (maxL := 4) (ret := none) (by decide +kernel) rfl (Nat.le_of_ble_eq_true rfl) (fun p e s m below meth c hx hb hr hts hown hlocks hml hnm hP hK hN ls hl => ?_)
  have hl : lv_has ls 4 [(0, .ref (am 0)), (1, .int xf), (2, .int xt)] := hl
  have lk_7 := hts (.fieldLink RX6 7 "HeadBudgetsModel" "row" "[I") (by decide +kernel)
  have hi_X6 : ∀ w ∈ wsX60, w ∈ wsX6_copy := by decide +kernel
  have hS : va_S (Aw 9 am) s.heap s.heap [] := va_S.rf
  have hP : va_P D vwCl (wM cI am Y) s.heap := hP
  refine lv_iconst (v := 0) hx hb dX6_copy_0 (by decide) ?_
  refine lv_istore_n (lv' := [(3, .int 0), (0, .ref (am 0)), (1, .int xf), (2, .int xt)]) hx hb dX6_copy_1 rfl hl (by decide) rfl (fun ls hl => ?_)
  have hloop_2 : ∀ (n_2 : Nat) (k : Nat) (xk : Int32) (R : Nat → Int32) (H : Heap) (locs : List Loc), va_P D vwCl (wMr cI am Y R) H → va_S (Aw 9 am) s.heap H locs → k ≤ 346 → 346 < k + n_2 → xk = nI k → (∀ q, R q = if 346 * tt ≤ q ∧ q < 346 * tt + k then rowM Y (346 * tf + (q - 346 * tt)) else rowM Y q) → ∀ ls : Array Slot, lv_has ls 4 [(0, .ref (am 0)), (1, .int xf), (2, .int xt), (3, .int xk)] → W p l e ({ frames := 0, cells := 0, slots := 0, locals := 0 } : Room) s m ([.ref (am 0), .int xf, .int xt]).toArray below meth c H locs 0 0 (MQ below (va_Qv (S := Unit) (fun _ => True) (fun _ t => va_P D vwCl (wM cI am (sg Y tt (Y tf))) t.heap) (Aw 9 am)) ([.ref (am 0), .int xf, .int xt]).toArray s 0 0 (Aw 9 am)) (F0 m 2 ls []) := by
    intro n_2
    induction n_2 with
    | zero =>
      intro k xk R H locs hP hS hk hn ek hR ls hl
      exfalso; omega
    | succ n_2 ih_2 =>
      intro k xk R H locs hP hS hk hn ek hR ls hl
      refine lv_iload_n hx hb dX6_copy_2 rfl (lv_at hl 3 rfl) ?_
      refine lv_sipush (v := 346) hx hb dX6_copy_3 (by decide) ?_
      refine lv_icmp_ge (tgt := 31) hx hb dX6_copy_6 (by decide) (fun c_6 => ?_) (fun c_6 => ?_)
      · have hk2 : k = 346 := nI_346ge hk (by rw [← ek]; exact c_6)
        subst hk2
        have e9 := cpR_fin hR hf ht
        rw [show wMr cI am Y R = wM cI am (sg Y tt (Y tf)) from wM_to e9 (sg_n _ _ _ (by omega)) (sg_n _ _ _ (by omega))] at hP
        exact retWV hx hb hr hlocks hP hS dX6_copy_31
      · have hlt : k < 346 := nI_346lt hk (by rw [← ek]; exact c_6)
        refine lv_aload_n hx hb dX6_copy_9 rfl (lv_at hl 0 rfl) ?_
        refine xget (C := RX6) (T := TX6) (N := 10) (ci := 6) (w := .ref (am 1)) hx hb hts hi_X6 hown hK hP 0 rfl rfl 0 (by decide) lk_7 rfl dX6_copy_10 ?_
        refine lv_iload_n hx hb dX6_copy_13 rfl (lv_at hl 2 rfl) ?_
        refine lv_iload_n hx hb dX6_copy_14 rfl (lv_at hl 3 rfl) ?_
        refine lv_iadd hx hb dX6_copy_15 ?_
        refine lv_aload_n hx hb dX6_copy_16 rfl (lv_at hl 0 rfl) ?_
        refine xget (C := RX6) (T := TX6) (N := 10) (ci := 6) (w := .ref (am 1)) hx hb hts hi_X6 hown hK hP 0 rfl rfl 0 (by decide) lk_7 rfl dX6_copy_17 ?_
        refine lv_iload_n hx hb dX6_copy_20 rfl (lv_at hl 1 rfl) ?_
        refine lv_iload_n hx hb dX6_copy_21 rfl (lv_at hl 3 rfl) ?_
        refine lv_iadd hx hb dX6_copy_22 ?_
        refine xald (x := R (xf + xk).toNatClampNeg) hx hb hK hP 1 rfl (by rw [cp_add ef ek]; exact vp_in_nI (by omega) (by omega)) rfl dX6_copy_23 ?_
        refine xast hx hb hK hP (wM_D hdj) hS 1 rfl (by rw [cp_add et ek]; exact vp_in_nI (by omega) (by omega)) wM_row dX6_copy_24 (fun H locs hP hS => ?_)
        have e1 : (xt + xk).toNatClampNeg = 346 * tt + k := by rw [cp_add et ek]; exact nI_clamp (by omega)
        have e2 : (xf + xk).toNatClampNeg = 346 * tf + k := by rw [cp_add ef ek]; exact nI_clamp (by omega)
        rw [e1, e2] at hP
        have hR2 := cpR_step hR hlt hne
        refine lv_iinc (v := xk + 1) (lv' := [(3, .int (xk + 1)), (0, .ref (am 0)), (1, .int xf), (2, .int xt)]) hx hb dX6_copy_25 hl (k := 3) rfl rfl (by decide) rfl (fun ls hl => ?_)
        refine lv_goto (tgt := 2) hx hb dX6_copy_28 (by decide) ?_
        exact ih_2  (k + 1) _ _ _ _ hP hS (by omega) (by omega) (by rw [ek]; exact nI_1 k) hR2 _ (lv_sub hl [1, 2, 3, 0] rfl)
  exact hloop_2  347 0 0 (rowM Y) _ _ hP hS (by omega) (by omega) rfl (fun q => by rw [if_neg (by omega)]) _ (lv_sub hl [1, 2, 3, 0] rfl)
set_option maxHeartbeats 4000000 in
set_option maxRecDepth 100000 in
theorem c_X6_forget {l : Launch} {D : va_G} {cI cR : ClassId} {am : Nat → Nat} (hdj : Dj 9 am) (Y : St) : WoV l D cI cR (Aw 9 am) (wM cI am Y) (wM cI am (N_fgt Y)) yX6_forget wsX6_forget ({ frames := 1, cells := 0, slots := 0, locals := 23 } : Room) [.ref (am 0)] := by
  refine OfW (cc := cX6_forget) (maxL := 2) (ret := none) (by decide +kernel) rfl (Nat.le_of_ble_eq_true rfl) (fun p e s m below meth c hx hb hr hts hown hlocks hml hnm hP hK hN ls hl => ?_)
  have hl : lv_has ls 2 [(0, .ref (am 0))] := hl
  have lk_13 := hts (.fieldLink RX6 13 "HeadBudgetsModel" "kinds" "[I") (by decide +kernel)
  have lk_16 := hts (.fieldLink RX6 16 "HeadBudgetsModel" "ones" "[I") (by decide +kernel)
  have lk_19 := hts (.fieldLink RX6 19 "HeadBudgetsModel" "others" "[I") (by decide +kernel)
  have lk_22 := hts (.fieldLink RX6 22 "HeadBudgetsModel" "amounts" "[I") (by decide +kernel)
  have lk_25 := hts (.fieldLink RX6 25 "HeadBudgetsModel" "years" "[I") (by decide +kernel)
  have lk_28 := hts (.fieldLink RX6 28 "HeadBudgetsModel" "revoked" "[I") (by decide +kernel)
  have lk_31 := hts (.fieldLink RX6 31 "HeadBudgetsModel" "numbers" "[I") (by decide +kernel)
  have lk_47 := hts (.fieldLink RX6 47 "HeadBudgetsModel" "deeds" "I") (by decide +kernel)
  have hi_X6 : ∀ w ∈ wsX60, w ∈ wsX6_forget := by decide +kernel
  have hS : va_S (Aw 9 am) s.heap s.heap [] := va_S.rf
  have hP : va_P D vwCl (wM cI am Y) s.heap := hP
  refine lv_iconst (v := 0) hx hb dX6_forget_0 (by decide) ?_
  refine lv_istore_n (lv' := [(1, .int 0), (0, .ref (am 0))]) hx hb dX6_forget_1 rfl hl (by decide) rfl (fun ls hl => ?_)
  have hloop_2 : ∀ (n_2 : Nat) (k : Nat) (xk : Int32) (XL_2 : St) (H : Heap) (locs : List Loc), va_P D vwCl (wM cI am XL_2) H → va_S (Aw 9 am) s.heap H locs → k ≤ 11 → 11 < k + n_2 → xk = nI k → XL_2 = fgt Y k → ∀ ls : Array Slot, lv_has ls 2 [(0, .ref (am 0)), (1, .int xk)] → W p l e ({ frames := 1, cells := 0, slots := 0, locals := 23 } : Room) s m ([.ref (am 0)]).toArray below meth c H locs 0 0 (MQ below (va_Qv (S := Unit) (fun _ => True) (fun _ t => va_P D vwCl (wM cI am (N_fgt Y)) t.heap) (Aw 9 am)) ([.ref (am 0)]).toArray s 0 0 (Aw 9 am)) (F0 m 2 ls []) := by
    intro n_2
    induction n_2 with
    | zero =>
      intro k xk XL_2 H locs hP hS hk hn ek ea ls hl
      exfalso; omega
    | succ n_2 ih_2 =>
      intro k xk XL_2 H locs hP hS hk hn ek ea ls hl
      refine lv_iload_n hx hb dX6_forget_2 rfl (lv_at hl 1 rfl) ?_
      refine lv_bipush (v := 11) hx hb dX6_forget_3 (by decide) ?_
      refine lv_icmp_ge (tgt := 130) hx hb dX6_forget_5 (by decide) (fun c_5 => ?_) (fun c_5 => ?_)
      · have hk2 : k = 11 := nI_11ge hk (by rw [← ek]; exact c_5)
        subst hk2
        refine lv_aload_n hx hb dX6_forget_130 rfl (lv_at hl 0 rfl) ?_
        refine lv_dup hx hb dX6_forget_131 rfl ?_
        refine xget (C := RX6) (T := TX6) (N := 10) (ci := 6) (w := .int (XL_2 14 0 0)) hx hb hts hi_X6 hown hK hP 0 rfl rfl 1 (by decide) lk_47 rfl dX6_forget_132 ?_
        refine lv_iconst (v := 1) hx hb dX6_forget_135 (by decide) ?_
        refine lv_isub hx hb dX6_forget_136 ?_
        refine xput (C := RX6) (T := TX6) (N := 10) (ci := 6) hx hb hts hi_X6 tyX6 tyX6_ok nmX6 hown hK hP (wM_D hdj) hS 0 rfl rfl 1 (by decide) lk_47 rfl (by decide +kernel) (Nat.le_of_ble_eq_true rfl) wM_n0 dX6_forget_137 (fun H locs hP hS => ?_)
        obtain ⟨X_1, eX_1⟩ : ∃ Z : St, Z = u3 XL_2 14 0 0 ((XL_2 14 0 0) - 1) := ⟨_, rfl⟩
        rw [← eX_1] at hP
        have hZ : X_1 = N_fgt Y := by
          subst eX_1
          rw [ea]
          rfl
        exact retWV hx hb hr hlocks (by rw [← hZ]; exact hP) hS dX6_forget_140
      · have hlt : k < 11 := nI_11lt hk (by rw [← ek]; exact c_5)
        refine lv_aload_n hx hb dX6_forget_8 rfl (lv_at hl 0 rfl) ?_
        refine lv_sipush (v := 346) hx hb dX6_forget_9 (by decide) ?_
        refine lv_iload_n hx hb dX6_forget_12 rfl (lv_at hl 1 rfl) ?_
        refine lv_iconst (v := 2) hx hb dX6_forget_13 (by decide) ?_
        refine lv_iadd hx hb dX6_forget_14 ?_
        refine lv_imul hx hb dX6_forget_15 ?_
        refine lv_sipush (v := 346) hx hb dX6_forget_16 (by decide) ?_
        refine lv_iload_n hx hb dX6_forget_19 rfl (lv_at hl 1 rfl) ?_
        refine lv_iconst (v := 1) hx hb dX6_forget_20 (by decide) ?_
        refine lv_iadd hx hb dX6_forget_21 ?_
        refine lv_imul hx hb dX6_forget_22 ?_
        refine callWV (As := [.int (346 * (xk + 2)), .int (346 * (xk + 1))]) (rest := []) ⟨hx, hb, hml, hown, hts⟩ (c_X6_copy hdj XL_2 (346 * (xk + 2)) (346 * (xk + 1)) (k + 2) (k + 1) (by omega) (by omega) (by omega) (by rw [ek]; exact n346 k 2) (by rw [ek]; exact n346 k 1)) (cwV 2 hts gX6_forget_X6_copy rfl rfl rfl (by decide +kernel) ⟨Nat.le_of_ble_eq_true rfl, Nat.le_of_ble_eq_true rfl⟩) hK hN hP 0 rfl rfl rfl hl.1 rfl (Nat.le_of_ble_eq_true rfl) dX6_forget_23 ⟨Nat.zero_le _, Nat.zero_le _⟩ hS (fun _ h9 => h9) (fun H locs hP hS => ?_)
        obtain ⟨X_2, eX_2⟩ : ∃ Z : St, Z = sg XL_2 (k + 1) (XL_2 (k + 2)) := ⟨_, rfl⟩
        rw [← eX_2] at hP
        refine lv_aload_n hx hb dX6_forget_26 rfl (lv_at hl 0 rfl) ?_
        refine xget (C := RX6) (T := TX6) (N := 10) (ci := 6) (w := .ref (am 2)) hx hb hts hi_X6 hown hK hP 0 rfl rfl 3 (by decide) lk_13 rfl dX6_forget_27 ?_
        refine lv_iload_n hx hb dX6_forget_30 rfl (lv_at hl 1 rfl) ?_
        refine lv_aload_n hx hb dX6_forget_31 rfl (lv_at hl 0 rfl) ?_
        refine xget (C := RX6) (T := TX6) (N := 10) (ci := 6) (w := .ref (am 2)) hx hb hts hi_X6 hown hK hP 0 rfl rfl 3 (by decide) lk_13 rfl dX6_forget_32 ?_
        refine lv_iload_n hx hb dX6_forget_35 rfl (lv_at hl 1 rfl) ?_
        refine lv_iconst (v := 1) hx hb dX6_forget_36 (by decide) ?_
        refine lv_iadd hx hb dX6_forget_37 ?_
        refine xald (x := X_2 13 0 (xk + 1).toNatClampNeg) hx hb hK hP 2 rfl (in12 (by rw [ek]; exact nI_1 k) (by omega)) rfl dX6_forget_38 ?_
        refine xast hx hb hK hP (wM_D hdj) hS 2 rfl (in12 ek (by omega)) wM_a0 dX6_forget_39 (fun H locs hP hS => ?_)
        obtain ⟨X_3, eX_3⟩ : ∃ Z : St, Z = u3 X_2 13 0 xk.toNatClampNeg (X_2 13 0 (xk + 1).toNatClampNeg) := ⟨_, rfl⟩
        rw [← eX_3] at hP
        refine lv_aload_n hx hb dX6_forget_40 rfl (lv_at hl 0 rfl) ?_
        refine xget (C := RX6) (T := TX6) (N := 10) (ci := 6) (w := .ref (am 3)) hx hb hts hi_X6 hown hK hP 0 rfl rfl 4 (by decide) lk_16 rfl dX6_forget_41 ?_
        refine lv_iload_n hx hb dX6_forget_44 rfl (lv_at hl 1 rfl) ?_
        refine lv_aload_n hx hb dX6_forget_45 rfl (lv_at hl 0 rfl) ?_
        refine xget (C := RX6) (T := TX6) (N := 10) (ci := 6) (w := .ref (am 3)) hx hb hts hi_X6 hown hK hP 0 rfl rfl 4 (by decide) lk_16 rfl dX6_forget_46 ?_
        refine lv_iload_n hx hb dX6_forget_49 rfl (lv_at hl 1 rfl) ?_
        refine lv_iconst (v := 1) hx hb dX6_forget_50 (by decide) ?_
        refine lv_iadd hx hb dX6_forget_51 ?_
        refine xald (x := X_3 13 1 (xk + 1).toNatClampNeg) hx hb hK hP 3 rfl (in12 (by rw [ek]; exact nI_1 k) (by omega)) rfl dX6_forget_52 ?_
        refine xast hx hb hK hP (wM_D hdj) hS 3 rfl (in12 ek (by omega)) wM_a1 dX6_forget_53 (fun H locs hP hS => ?_)
        obtain ⟨X_4, eX_4⟩ : ∃ Z : St, Z = u3 X_3 13 1 xk.toNatClampNeg (X_3 13 1 (xk + 1).toNatClampNeg) := ⟨_, rfl⟩
        rw [← eX_4] at hP
        refine lv_aload_n hx hb dX6_forget_54 rfl (lv_at hl 0 rfl) ?_
        refine xget (C := RX6) (T := TX6) (N := 10) (ci := 6) (w := .ref (am 4)) hx hb hts hi_X6 hown hK hP 0 rfl rfl 5 (by decide) lk_19 rfl dX6_forget_55 ?_
        refine lv_iload_n hx hb dX6_forget_58 rfl (lv_at hl 1 rfl) ?_
        refine lv_aload_n hx hb dX6_forget_59 rfl (lv_at hl 0 rfl) ?_
        refine xget (C := RX6) (T := TX6) (N := 10) (ci := 6) (w := .ref (am 4)) hx hb hts hi_X6 hown hK hP 0 rfl rfl 5 (by decide) lk_19 rfl dX6_forget_60 ?_
        refine lv_iload_n hx hb dX6_forget_63 rfl (lv_at hl 1 rfl) ?_
        refine lv_iconst (v := 1) hx hb dX6_forget_64 (by decide) ?_
        refine lv_iadd hx hb dX6_forget_65 ?_
        refine xald (x := X_4 13 2 (xk + 1).toNatClampNeg) hx hb hK hP 4 rfl (in12 (by rw [ek]; exact nI_1 k) (by omega)) rfl dX6_forget_66 ?_
        refine xast hx hb hK hP (wM_D hdj) hS 4 rfl (in12 ek (by omega)) wM_a2 dX6_forget_67 (fun H locs hP hS => ?_)
        obtain ⟨X_5, eX_5⟩ : ∃ Z : St, Z = u3 X_4 13 2 xk.toNatClampNeg (X_4 13 2 (xk + 1).toNatClampNeg) := ⟨_, rfl⟩
        rw [← eX_5] at hP
        refine lv_aload_n hx hb dX6_forget_68 rfl (lv_at hl 0 rfl) ?_
        refine xget (C := RX6) (T := TX6) (N := 10) (ci := 6) (w := .ref (am 5)) hx hb hts hi_X6 hown hK hP 0 rfl rfl 6 (by decide) lk_22 rfl dX6_forget_69 ?_
        refine lv_iload_n hx hb dX6_forget_72 rfl (lv_at hl 1 rfl) ?_
        refine lv_aload_n hx hb dX6_forget_73 rfl (lv_at hl 0 rfl) ?_
        refine xget (C := RX6) (T := TX6) (N := 10) (ci := 6) (w := .ref (am 5)) hx hb hts hi_X6 hown hK hP 0 rfl rfl 6 (by decide) lk_22 rfl dX6_forget_74 ?_
        refine lv_iload_n hx hb dX6_forget_77 rfl (lv_at hl 1 rfl) ?_
        refine lv_iconst (v := 1) hx hb dX6_forget_78 (by decide) ?_
        refine lv_iadd hx hb dX6_forget_79 ?_
        refine xald (x := X_5 13 3 (xk + 1).toNatClampNeg) hx hb hK hP 5 rfl (in12 (by rw [ek]; exact nI_1 k) (by omega)) rfl dX6_forget_80 ?_
        refine xast hx hb hK hP (wM_D hdj) hS 5 rfl (in12 ek (by omega)) wM_a3 dX6_forget_81 (fun H locs hP hS => ?_)
        obtain ⟨X_6, eX_6⟩ : ∃ Z : St, Z = u3 X_5 13 3 xk.toNatClampNeg (X_5 13 3 (xk + 1).toNatClampNeg) := ⟨_, rfl⟩
        rw [← eX_6] at hP
        refine lv_aload_n hx hb dX6_forget_82 rfl (lv_at hl 0 rfl) ?_
        refine xget (C := RX6) (T := TX6) (N := 10) (ci := 6) (w := .ref (am 6)) hx hb hts hi_X6 hown hK hP 0 rfl rfl 7 (by decide) lk_25 rfl dX6_forget_83 ?_
        refine lv_iload_n hx hb dX6_forget_86 rfl (lv_at hl 1 rfl) ?_
        refine lv_aload_n hx hb dX6_forget_87 rfl (lv_at hl 0 rfl) ?_
        refine xget (C := RX6) (T := TX6) (N := 10) (ci := 6) (w := .ref (am 6)) hx hb hts hi_X6 hown hK hP 0 rfl rfl 7 (by decide) lk_25 rfl dX6_forget_88 ?_
        refine lv_iload_n hx hb dX6_forget_91 rfl (lv_at hl 1 rfl) ?_
        refine lv_iconst (v := 1) hx hb dX6_forget_92 (by decide) ?_
        refine lv_iadd hx hb dX6_forget_93 ?_
        refine xald (x := X_6 13 4 (xk + 1).toNatClampNeg) hx hb hK hP 6 rfl (in12 (by rw [ek]; exact nI_1 k) (by omega)) rfl dX6_forget_94 ?_
        refine xast hx hb hK hP (wM_D hdj) hS 6 rfl (in12 ek (by omega)) wM_a4 dX6_forget_95 (fun H locs hP hS => ?_)
        obtain ⟨X_7, eX_7⟩ : ∃ Z : St, Z = u3 X_6 13 4 xk.toNatClampNeg (X_6 13 4 (xk + 1).toNatClampNeg) := ⟨_, rfl⟩
        rw [← eX_7] at hP
        refine lv_aload_n hx hb dX6_forget_96 rfl (lv_at hl 0 rfl) ?_
        refine xget (C := RX6) (T := TX6) (N := 10) (ci := 6) (w := .ref (am 7)) hx hb hts hi_X6 hown hK hP 0 rfl rfl 8 (by decide) lk_28 rfl dX6_forget_97 ?_
        refine lv_iload_n hx hb dX6_forget_100 rfl (lv_at hl 1 rfl) ?_
        refine lv_aload_n hx hb dX6_forget_101 rfl (lv_at hl 0 rfl) ?_
        refine xget (C := RX6) (T := TX6) (N := 10) (ci := 6) (w := .ref (am 7)) hx hb hts hi_X6 hown hK hP 0 rfl rfl 8 (by decide) lk_28 rfl dX6_forget_102 ?_
        refine lv_iload_n hx hb dX6_forget_105 rfl (lv_at hl 1 rfl) ?_
        refine lv_iconst (v := 1) hx hb dX6_forget_106 (by decide) ?_
        refine lv_iadd hx hb dX6_forget_107 ?_
        refine xald (x := X_7 13 5 (xk + 1).toNatClampNeg) hx hb hK hP 7 rfl (in12 (by rw [ek]; exact nI_1 k) (by omega)) rfl dX6_forget_108 ?_
        refine xast hx hb hK hP (wM_D hdj) hS 7 rfl (in12 ek (by omega)) wM_a5 dX6_forget_109 (fun H locs hP hS => ?_)
        obtain ⟨X_8, eX_8⟩ : ∃ Z : St, Z = u3 X_7 13 5 xk.toNatClampNeg (X_7 13 5 (xk + 1).toNatClampNeg) := ⟨_, rfl⟩
        rw [← eX_8] at hP
        refine lv_aload_n hx hb dX6_forget_110 rfl (lv_at hl 0 rfl) ?_
        refine xget (C := RX6) (T := TX6) (N := 10) (ci := 6) (w := .ref (am 8)) hx hb hts hi_X6 hown hK hP 0 rfl rfl 9 (by decide) lk_31 rfl dX6_forget_111 ?_
        refine lv_iload_n hx hb dX6_forget_114 rfl (lv_at hl 1 rfl) ?_
        refine lv_aload_n hx hb dX6_forget_115 rfl (lv_at hl 0 rfl) ?_
        refine xget (C := RX6) (T := TX6) (N := 10) (ci := 6) (w := .ref (am 8)) hx hb hts hi_X6 hown hK hP 0 rfl rfl 9 (by decide) lk_31 rfl dX6_forget_116 ?_
        refine lv_iload_n hx hb dX6_forget_119 rfl (lv_at hl 1 rfl) ?_
        refine lv_iconst (v := 1) hx hb dX6_forget_120 (by decide) ?_
        refine lv_iadd hx hb dX6_forget_121 ?_
        refine xald (x := X_8 13 6 (xk + 1).toNatClampNeg) hx hb hK hP 8 rfl (in12 (by rw [ek]; exact nI_1 k) (by omega)) rfl dX6_forget_122 ?_
        refine xast hx hb hK hP (wM_D hdj) hS 8 rfl (in12 ek (by omega)) wM_a6 dX6_forget_123 (fun H locs hP hS => ?_)
        obtain ⟨X_9, eX_9⟩ : ∃ Z : St, Z = u3 X_8 13 6 xk.toNatClampNeg (X_8 13 6 (xk + 1).toNatClampNeg) := ⟨_, rfl⟩
        rw [← eX_9] at hP
        refine lv_iinc (v := xk + 1) (lv' := [(1, .int (xk + 1)), (0, .ref (am 0))]) hx hb dX6_forget_124 hl (k := 1) rfl rfl (by decide) rfl (fun ls hl => ?_)
        refine lv_goto (tgt := 2) hx hb dX6_forget_127 (by decide) ?_
        have hz : X_9 = fgt Y (k + 1) := by
          have e0 : xk.toNatClampNeg = k := by rw [ek]; exact nI_c (by omega)
          have e1 : (xk + 1).toNatClampNeg = k + 1 := by rw [ek, nI_1]; exact nI_c (by omega)
          simp only [e0, e1] at eX_3 eX_4 eX_5 eX_6 eX_7 eX_8 eX_9
          subst eX_9 eX_8 eX_7 eX_6 eX_5 eX_4 eX_3 eX_2
          subst ea
          rfl
        exact ih_2  (k + 1) _ X_9 _ _ hP hS (by omega) (by omega) (by rw [ek]; exact nI_1 k) hz _ (lv_sub hl [1, 0] rfl)
  exact hloop_2  12 0 0 Y _ _ hP hS (by omega) (by omega) rfl rfl _ (lv_sub hl [1, 0] rfl)
set_option maxHeartbeats 4000000 in
set_option maxRecDepth 100000 in
theorem c_X6_remember {l : Launch} {D : va_G} {cI cR : ClassId} {am : Nat → Nat} (hdj : Dj 9 am) (Y : St) (k : Int32) (o1 : Int32) (o2 : Int32) (a : Int32) (n : Nat) (hn : n ≤ 12) (hd : Y 14 0 0 = nI n) : WoV l D cI cR (Aw 9 am) (wM cI am Y) (wM cI am (N_remM Y n k o1 o2 a)) yX6_remember wsX6_remember ({ frames := 2, cells := 0, slots := 0, locals := 44 } : Room) [.ref (am 0), .int k, .int o1, .int o2, .int a] := by
  refine OfW (cc := cX6_remember) (maxL := 5) (ret := none) (by decide +kernel) rfl (Nat.le_of_ble_eq_true rfl) (fun p e s m below meth c hx hb hr hts hown hlocks hml hnm hP hK hN ls hl => ?_)
  have hl : lv_has ls 5 [(0, .ref (am 0)), (1, .int k), (2, .int o1), (3, .int o2), (4, .int a)] := hl
  have lk_47 := hts (.fieldLink RX6 47 "HeadBudgetsModel" "deeds" "I") (by decide +kernel)
  have lk_13 := hts (.fieldLink RX6 13 "HeadBudgetsModel" "kinds" "[I") (by decide +kernel)
  have lk_16 := hts (.fieldLink RX6 16 "HeadBudgetsModel" "ones" "[I") (by decide +kernel)
  have lk_19 := hts (.fieldLink RX6 19 "HeadBudgetsModel" "others" "[I") (by decide +kernel)
  have lk_22 := hts (.fieldLink RX6 22 "HeadBudgetsModel" "amounts" "[I") (by decide +kernel)
  have lk_25 := hts (.fieldLink RX6 25 "HeadBudgetsModel" "years" "[I") (by decide +kernel)
  have lk_7 := hts (.fieldLink RX6 7 "HeadBudgetsModel" "row" "[I") (by decide +kernel)
  have lk_28 := hts (.fieldLink RX6 28 "HeadBudgetsModel" "revoked" "[I") (by decide +kernel)
  have lk_31 := hts (.fieldLink RX6 31 "HeadBudgetsModel" "numbers" "[I") (by decide +kernel)
  have lk_54 := hts (.fieldLink RX6 54 "HeadBudgetsModel" "deedNumber" "I") (by decide +kernel)
  have hi_X6 : ∀ w ∈ wsX60, w ∈ wsX6_remember := by decide +kernel
  have hS : va_S (Aw 9 am) s.heap s.heap [] := va_S.rf
  have hP : va_P D vwCl (wM cI am Y) s.heap := hP
  refine lv_aload_n hx hb dX6_remember_0 rfl (lv_at hl 0 rfl) ?_
  refine xget (C := RX6) (T := TX6) (N := 10) (ci := 6) (w := .int (Y 14 0 0)) hx hb hts hi_X6 hown hK hP 0 rfl rfl 1 (by decide) lk_47 rfl dX6_remember_1 ?_
  refine lv_bipush (v := 12) hx hb dX6_remember_4 (by decide) ?_
  refine lv_icmp_ne (tgt := 13) hx hb dX6_remember_6 (by decide) (fun c_6 => ?_) (fun c_6 => ?_)
  · have hn2 : ¬ n = 12 := fun z => c_6 (by rw [hd, z]; rfl)
    obtain ⟨j, ej⟩ : ∃ j : Nat, j = n := ⟨_, rfl⟩
    have hj : j < 12 := by omega
    have hd0 : Y 14 0 0 = nI j := by rw [ej]; exact hd
    refine lv_aload_n hx hb dX6_remember_13 rfl (lv_at hl 0 rfl) ?_
    refine lv_iconst (v := 0) hx hb dX6_remember_14 (by decide) ?_
    refine lv_sipush (v := 346) hx hb dX6_remember_15 (by decide) ?_
    refine lv_aload_n hx hb dX6_remember_18 rfl (lv_at hl 0 rfl) ?_
    refine xget (C := RX6) (T := TX6) (N := 10) (ci := 6) (w := .int (Y 14 0 0)) hx hb hts hi_X6 hown hK hP 0 rfl rfl 1 (by decide) lk_47 rfl dX6_remember_19 ?_
    rw [hd0]
    refine lv_iconst (v := 1) hx hb dX6_remember_22 (by decide) ?_
    refine lv_iadd hx hb dX6_remember_23 ?_
    refine lv_imul hx hb dX6_remember_24 ?_
    refine callWV (As := [.int 0, .int (346 * ((nI j) + 1))]) (rest := []) ⟨hx, hb, hml, hown, hts⟩ (c_X6_copy hdj Y 0 (346 * ((nI j) + 1)) 0 (j + 1) (by decide) (by omega) (by omega) rfl (n346 j 1)) (cwV 2 hts gX6_remember_X6_copy rfl rfl rfl (by decide +kernel) ⟨Nat.le_of_ble_eq_true rfl, Nat.le_of_ble_eq_true rfl⟩) hK hN hP 0 rfl rfl rfl hl.1 rfl (Nat.le_of_ble_eq_true rfl) dX6_remember_25 ⟨Nat.zero_le _, Nat.zero_le _⟩ hS (fun _ h9 => h9) (fun H locs hP hS => ?_)
    obtain ⟨X_1, eX_1⟩ : ∃ Z : St, Z = sg Y (j + 1) (Y 0) := ⟨_, rfl⟩
    rw [← eX_1] at hP
    have hd_X_1 : X_1 14 0 0 = nI j := by
      rw [eX_1]
      first | (rw [u3_n _ _ _ _ _ (by omega)]; exact hd0) | (rw [sg_n _ _ _ (by omega)]; exact hd0) | (rw [u3_g, b2_ni _ _ _ _ (by omega)]; exact hd0) | skip
    refine lv_aload_n hx hb dX6_remember_28 rfl (lv_at hl 0 rfl) ?_
    refine xget (C := RX6) (T := TX6) (N := 10) (ci := 6) (w := .ref (am 2)) hx hb hts hi_X6 hown hK hP 0 rfl rfl 3 (by decide) lk_13 rfl dX6_remember_29 ?_
    refine lv_aload_n hx hb dX6_remember_32 rfl (lv_at hl 0 rfl) ?_
    refine xget (C := RX6) (T := TX6) (N := 10) (ci := 6) (w := .int (X_1 14 0 0)) hx hb hts hi_X6 hown hK hP 0 rfl rfl 1 (by decide) lk_47 rfl dX6_remember_33 ?_
    rw [hd_X_1]
    refine lv_iload_n hx hb dX6_remember_36 rfl (lv_at hl 1 rfl) ?_
    refine xast hx hb hK hP (wM_D hdj) hS 2 rfl (in12 rfl hj) wM_a0 dX6_remember_37 (fun H locs hP hS => ?_)
    obtain ⟨X_2, eX_2⟩ : ∃ Z : St, Z = u3 X_1 13 0 (nI j).toNatClampNeg k := ⟨_, rfl⟩
    rw [← eX_2] at hP
    have hd_X_2 : X_2 14 0 0 = nI j := by
      rw [eX_2]
      first | (rw [u3_n _ _ _ _ _ (by omega)]; exact hd_X_1) | (rw [sg_n _ _ _ (by omega)]; exact hd_X_1) | (rw [u3_g, b2_ni _ _ _ _ (by omega)]; exact hd_X_1) | skip
    refine lv_aload_n hx hb dX6_remember_38 rfl (lv_at hl 0 rfl) ?_
    refine xget (C := RX6) (T := TX6) (N := 10) (ci := 6) (w := .ref (am 3)) hx hb hts hi_X6 hown hK hP 0 rfl rfl 4 (by decide) lk_16 rfl dX6_remember_39 ?_
    refine lv_aload_n hx hb dX6_remember_42 rfl (lv_at hl 0 rfl) ?_
    refine xget (C := RX6) (T := TX6) (N := 10) (ci := 6) (w := .int (X_2 14 0 0)) hx hb hts hi_X6 hown hK hP 0 rfl rfl 1 (by decide) lk_47 rfl dX6_remember_43 ?_
    rw [hd_X_2]
    refine lv_iload_n hx hb dX6_remember_46 rfl (lv_at hl 2 rfl) ?_
    refine xast hx hb hK hP (wM_D hdj) hS 3 rfl (in12 rfl hj) wM_a1 dX6_remember_47 (fun H locs hP hS => ?_)
    obtain ⟨X_3, eX_3⟩ : ∃ Z : St, Z = u3 X_2 13 1 (nI j).toNatClampNeg o1 := ⟨_, rfl⟩
    rw [← eX_3] at hP
    have hd_X_3 : X_3 14 0 0 = nI j := by
      rw [eX_3]
      first | (rw [u3_n _ _ _ _ _ (by omega)]; exact hd_X_2) | (rw [sg_n _ _ _ (by omega)]; exact hd_X_2) | (rw [u3_g, b2_ni _ _ _ _ (by omega)]; exact hd_X_2) | skip
    refine lv_aload_n hx hb dX6_remember_48 rfl (lv_at hl 0 rfl) ?_
    refine xget (C := RX6) (T := TX6) (N := 10) (ci := 6) (w := .ref (am 4)) hx hb hts hi_X6 hown hK hP 0 rfl rfl 5 (by decide) lk_19 rfl dX6_remember_49 ?_
    refine lv_aload_n hx hb dX6_remember_52 rfl (lv_at hl 0 rfl) ?_
    refine xget (C := RX6) (T := TX6) (N := 10) (ci := 6) (w := .int (X_3 14 0 0)) hx hb hts hi_X6 hown hK hP 0 rfl rfl 1 (by decide) lk_47 rfl dX6_remember_53 ?_
    rw [hd_X_3]
    refine lv_iload_n hx hb dX6_remember_56 rfl (lv_at hl 3 rfl) ?_
    refine xast hx hb hK hP (wM_D hdj) hS 4 rfl (in12 rfl hj) wM_a2 dX6_remember_57 (fun H locs hP hS => ?_)
    obtain ⟨X_4, eX_4⟩ : ∃ Z : St, Z = u3 X_3 13 2 (nI j).toNatClampNeg o2 := ⟨_, rfl⟩
    rw [← eX_4] at hP
    have hd_X_4 : X_4 14 0 0 = nI j := by
      rw [eX_4]
      first | (rw [u3_n _ _ _ _ _ (by omega)]; exact hd_X_3) | (rw [sg_n _ _ _ (by omega)]; exact hd_X_3) | (rw [u3_g, b2_ni _ _ _ _ (by omega)]; exact hd_X_3) | skip
    refine lv_aload_n hx hb dX6_remember_58 rfl (lv_at hl 0 rfl) ?_
    refine xget (C := RX6) (T := TX6) (N := 10) (ci := 6) (w := .ref (am 5)) hx hb hts hi_X6 hown hK hP 0 rfl rfl 6 (by decide) lk_22 rfl dX6_remember_59 ?_
    refine lv_aload_n hx hb dX6_remember_62 rfl (lv_at hl 0 rfl) ?_
    refine xget (C := RX6) (T := TX6) (N := 10) (ci := 6) (w := .int (X_4 14 0 0)) hx hb hts hi_X6 hown hK hP 0 rfl rfl 1 (by decide) lk_47 rfl dX6_remember_63 ?_
    rw [hd_X_4]
    refine lv_iload hx hb dX6_remember_66 (lv_at hl 4 rfl) ?_
    refine xast hx hb hK hP (wM_D hdj) hS 5 rfl (in12 rfl hj) wM_a3 dX6_remember_68 (fun H locs hP hS => ?_)
    obtain ⟨X_5, eX_5⟩ : ∃ Z : St, Z = u3 X_4 13 3 (nI j).toNatClampNeg a := ⟨_, rfl⟩
    rw [← eX_5] at hP
    have hd_X_5 : X_5 14 0 0 = nI j := by
      rw [eX_5]
      first | (rw [u3_n _ _ _ _ _ (by omega)]; exact hd_X_4) | (rw [sg_n _ _ _ (by omega)]; exact hd_X_4) | (rw [u3_g, b2_ni _ _ _ _ (by omega)]; exact hd_X_4) | skip
    refine lv_aload_n hx hb dX6_remember_69 rfl (lv_at hl 0 rfl) ?_
    refine xget (C := RX6) (T := TX6) (N := 10) (ci := 6) (w := .ref (am 6)) hx hb hts hi_X6 hown hK hP 0 rfl rfl 7 (by decide) lk_25 rfl dX6_remember_70 ?_
    refine lv_aload_n hx hb dX6_remember_73 rfl (lv_at hl 0 rfl) ?_
    refine xget (C := RX6) (T := TX6) (N := 10) (ci := 6) (w := .int (X_5 14 0 0)) hx hb hts hi_X6 hown hK hP 0 rfl rfl 1 (by decide) lk_47 rfl dX6_remember_74 ?_
    rw [hd_X_5]
    refine lv_aload_n hx hb dX6_remember_77 rfl (lv_at hl 0 rfl) ?_
    refine xget (C := RX6) (T := TX6) (N := 10) (ci := 6) (w := .ref (am 1)) hx hb hts hi_X6 hown hK hP 0 rfl rfl 0 (by decide) lk_7 rfl dX6_remember_78 ?_
    refine lv_iconst (v := 0) hx hb dX6_remember_81 (by decide) ?_
    refine xald (x := X_5 0 14 0) hx hb hK hP 1 rfl (vp_in_lit (by decide)) (row_n _ (o := 0) (by decide)) dX6_remember_82 ?_
    refine xast hx hb hK hP (wM_D hdj) hS 6 rfl (in12 rfl hj) wM_a4 dX6_remember_83 (fun H locs hP hS => ?_)
    obtain ⟨X_6, eX_6⟩ : ∃ Z : St, Z = u3 X_5 13 4 (nI j).toNatClampNeg (X_5 0 14 0) := ⟨_, rfl⟩
    rw [← eX_6] at hP
    have hd_X_6 : X_6 14 0 0 = nI j := by
      rw [eX_6]
      first | (rw [u3_n _ _ _ _ _ (by omega)]; exact hd_X_5) | (rw [sg_n _ _ _ (by omega)]; exact hd_X_5) | (rw [u3_g, b2_ni _ _ _ _ (by omega)]; exact hd_X_5) | skip
    refine lv_aload_n hx hb dX6_remember_84 rfl (lv_at hl 0 rfl) ?_
    refine xget (C := RX6) (T := TX6) (N := 10) (ci := 6) (w := .ref (am 7)) hx hb hts hi_X6 hown hK hP 0 rfl rfl 8 (by decide) lk_28 rfl dX6_remember_85 ?_
    refine lv_aload_n hx hb dX6_remember_88 rfl (lv_at hl 0 rfl) ?_
    refine xget (C := RX6) (T := TX6) (N := 10) (ci := 6) (w := .int (X_6 14 0 0)) hx hb hts hi_X6 hown hK hP 0 rfl rfl 1 (by decide) lk_47 rfl dX6_remember_89 ?_
    rw [hd_X_6]
    refine lv_iconst (v := 0) hx hb dX6_remember_92 (by decide) ?_
    refine xast hx hb hK hP (wM_D hdj) hS 7 rfl (in12 rfl hj) wM_a5 dX6_remember_93 (fun H locs hP hS => ?_)
    obtain ⟨X_7, eX_7⟩ : ∃ Z : St, Z = u3 X_6 13 5 (nI j).toNatClampNeg 0 := ⟨_, rfl⟩
    rw [← eX_7] at hP
    have hd_X_7 : X_7 14 0 0 = nI j := by
      rw [eX_7]
      first | (rw [u3_n _ _ _ _ _ (by omega)]; exact hd_X_6) | (rw [sg_n _ _ _ (by omega)]; exact hd_X_6) | (rw [u3_g, b2_ni _ _ _ _ (by omega)]; exact hd_X_6) | skip
    refine lv_aload_n hx hb dX6_remember_94 rfl (lv_at hl 0 rfl) ?_
    refine xget (C := RX6) (T := TX6) (N := 10) (ci := 6) (w := .ref (am 8)) hx hb hts hi_X6 hown hK hP 0 rfl rfl 9 (by decide) lk_31 rfl dX6_remember_95 ?_
    refine lv_aload_n hx hb dX6_remember_98 rfl (lv_at hl 0 rfl) ?_
    refine xget (C := RX6) (T := TX6) (N := 10) (ci := 6) (w := .int (X_7 14 0 0)) hx hb hts hi_X6 hown hK hP 0 rfl rfl 1 (by decide) lk_47 rfl dX6_remember_99 ?_
    rw [hd_X_7]
    refine lv_aload_n hx hb dX6_remember_102 rfl (lv_at hl 0 rfl) ?_
    refine xget (C := RX6) (T := TX6) (N := 10) (ci := 6) (w := .int (X_7 14 0 1)) hx hb hts hi_X6 hown hK hP 0 rfl rfl 2 (by decide) lk_54 rfl dX6_remember_103 ?_
    refine xast hx hb hK hP (wM_D hdj) hS 8 rfl (in12 rfl hj) wM_a6 dX6_remember_106 (fun H locs hP hS => ?_)
    obtain ⟨X_8, eX_8⟩ : ∃ Z : St, Z = u3 X_7 13 6 (nI j).toNatClampNeg (X_7 14 0 1) := ⟨_, rfl⟩
    rw [← eX_8] at hP
    have hd_X_8 : X_8 14 0 0 = nI j := by
      rw [eX_8]
      first | (rw [u3_n _ _ _ _ _ (by omega)]; exact hd_X_7) | (rw [sg_n _ _ _ (by omega)]; exact hd_X_7) | (rw [u3_g, b2_ni _ _ _ _ (by omega)]; exact hd_X_7) | skip
    refine lv_aload_n hx hb dX6_remember_107 rfl (lv_at hl 0 rfl) ?_
    refine lv_dup hx hb dX6_remember_108 rfl ?_
    refine xget (C := RX6) (T := TX6) (N := 10) (ci := 6) (w := .int (X_8 14 0 1)) hx hb hts hi_X6 hown hK hP 0 rfl rfl 2 (by decide) lk_54 rfl dX6_remember_109 ?_
    refine lv_iconst (v := 1) hx hb dX6_remember_112 (by decide) ?_
    refine lv_iadd hx hb dX6_remember_113 ?_
    refine xput (C := RX6) (T := TX6) (N := 10) (ci := 6) hx hb hts hi_X6 tyX6 tyX6_ok nmX6 hown hK hP (wM_D hdj) hS 0 rfl rfl 2 (by decide) lk_54 rfl (by decide +kernel) (Nat.le_of_ble_eq_true rfl) wM_n1 dX6_remember_114 (fun H locs hP hS => ?_)
    obtain ⟨X_9, eX_9⟩ : ∃ Z : St, Z = u3 X_8 14 0 1 ((X_8 14 0 1) + 1) := ⟨_, rfl⟩
    rw [← eX_9] at hP
    have hd_X_9 : X_9 14 0 0 = nI j := by
      rw [eX_9]
      first | (rw [u3_n _ _ _ _ _ (by omega)]; exact hd_X_8) | (rw [sg_n _ _ _ (by omega)]; exact hd_X_8) | (rw [u3_g, b2_ni _ _ _ _ (by omega)]; exact hd_X_8) | skip
    refine lv_aload_n hx hb dX6_remember_117 rfl (lv_at hl 0 rfl) ?_
    refine lv_dup hx hb dX6_remember_118 rfl ?_
    refine xget (C := RX6) (T := TX6) (N := 10) (ci := 6) (w := .int (X_9 14 0 0)) hx hb hts hi_X6 hown hK hP 0 rfl rfl 1 (by decide) lk_47 rfl dX6_remember_119 ?_
    rw [hd_X_9]
    refine lv_iconst (v := 1) hx hb dX6_remember_122 (by decide) ?_
    refine lv_iadd hx hb dX6_remember_123 ?_
    refine xput (C := RX6) (T := TX6) (N := 10) (ci := 6) hx hb hts hi_X6 tyX6 tyX6_ok nmX6 hown hK hP (wM_D hdj) hS 0 rfl rfl 1 (by decide) lk_47 rfl (by decide +kernel) (Nat.le_of_ble_eq_true rfl) wM_n0 dX6_remember_124 (fun H locs hP hS => ?_)
    obtain ⟨X_10, eX_10⟩ : ∃ Z : St, Z = u3 X_9 14 0 0 ((nI j) + 1) := ⟨_, rfl⟩
    rw [← eX_10] at hP
    have hZ : X_10 = N_remM Y n k o1 o2 a := by
      subst eX_10 eX_9 eX_8 eX_7 eX_6 eX_5 eX_4 eX_3 eX_2 eX_1
      subst ej
      unfold N_remM
      first | rw [ci_t hn2] | rw [ci_f hn2]
      rfl
    exact retWV hx hb hr hlocks (by rw [← hZ]; exact hP) hS dX6_remember_127
  · refine lv_aload_n hx hb dX6_remember_9 rfl (lv_at hl 0 rfl) ?_
    refine callWV (As := []) (rest := []) ⟨hx, hb, hml, hown, hts⟩ (c_X6_forget hdj Y) (cwV 0 hts gX6_remember_X6_forget rfl rfl rfl (by decide +kernel) ⟨Nat.le_of_ble_eq_true rfl, Nat.le_of_ble_eq_true rfl⟩) hK hN hP 0 rfl rfl rfl hl.1 rfl (Nat.le_of_ble_eq_true rfl) dX6_remember_10 ⟨Nat.zero_le _, Nat.zero_le _⟩ hS (fun _ h9 => h9) (fun H locs hP hS => ?_)
    obtain ⟨X_11, eX_11⟩ : ∃ Z : St, Z = N_fgt Y := ⟨_, rfl⟩
    rw [← eX_11] at hP
    have hn2 : n = 12 := by
      rw [hd] at c_6
      exact (nI_eq (b := 12) (by omega) (by omega)).mp c_6
    obtain ⟨j, ej⟩ : ∃ j : Nat, j = 11 := ⟨_, rfl⟩
    have hj : j < 12 := by omega
    have hd0 : X_11 14 0 0 = nI j := by
      rw [eX_11, ej]
      exact N_fgt_d Y (by rw [hd, hn2])
    refine lv_aload_n hx hb dX6_remember_13 rfl (lv_at hl 0 rfl) ?_
    refine lv_iconst (v := 0) hx hb dX6_remember_14 (by decide) ?_
    refine lv_sipush (v := 346) hx hb dX6_remember_15 (by decide) ?_
    refine lv_aload_n hx hb dX6_remember_18 rfl (lv_at hl 0 rfl) ?_
    refine xget (C := RX6) (T := TX6) (N := 10) (ci := 6) (w := .int (X_11 14 0 0)) hx hb hts hi_X6 hown hK hP 0 rfl rfl 1 (by decide) lk_47 rfl dX6_remember_19 ?_
    rw [hd0]
    refine lv_iconst (v := 1) hx hb dX6_remember_22 (by decide) ?_
    refine lv_iadd hx hb dX6_remember_23 ?_
    refine lv_imul hx hb dX6_remember_24 ?_
    refine callWV (As := [.int 0, .int (346 * ((nI j) + 1))]) (rest := []) ⟨hx, hb, hml, hown, hts⟩ (c_X6_copy hdj X_11 0 (346 * ((nI j) + 1)) 0 (j + 1) (by decide) (by omega) (by omega) rfl (n346 j 1)) (cwV 2 hts gX6_remember_X6_copy rfl rfl rfl (by decide +kernel) ⟨Nat.le_of_ble_eq_true rfl, Nat.le_of_ble_eq_true rfl⟩) hK hN hP 0 rfl rfl rfl hl.1 rfl (Nat.le_of_ble_eq_true rfl) dX6_remember_25 ⟨Nat.zero_le _, Nat.zero_le _⟩ hS (fun _ h9 => h9) (fun H locs hP hS => ?_)
    obtain ⟨X_12, eX_12⟩ : ∃ Z : St, Z = sg X_11 (j + 1) (X_11 0) := ⟨_, rfl⟩
    rw [← eX_12] at hP
    have hd_X_12 : X_12 14 0 0 = nI j := by
      rw [eX_12]
      first | (rw [u3_n _ _ _ _ _ (by omega)]; exact hd0) | (rw [sg_n _ _ _ (by omega)]; exact hd0) | (rw [u3_g, b2_ni _ _ _ _ (by omega)]; exact hd0) | skip
    refine lv_aload_n hx hb dX6_remember_28 rfl (lv_at hl 0 rfl) ?_
    refine xget (C := RX6) (T := TX6) (N := 10) (ci := 6) (w := .ref (am 2)) hx hb hts hi_X6 hown hK hP 0 rfl rfl 3 (by decide) lk_13 rfl dX6_remember_29 ?_
    refine lv_aload_n hx hb dX6_remember_32 rfl (lv_at hl 0 rfl) ?_
    refine xget (C := RX6) (T := TX6) (N := 10) (ci := 6) (w := .int (X_12 14 0 0)) hx hb hts hi_X6 hown hK hP 0 rfl rfl 1 (by decide) lk_47 rfl dX6_remember_33 ?_
    rw [hd_X_12]
    refine lv_iload_n hx hb dX6_remember_36 rfl (lv_at hl 1 rfl) ?_
    refine xast hx hb hK hP (wM_D hdj) hS 2 rfl (in12 rfl hj) wM_a0 dX6_remember_37 (fun H locs hP hS => ?_)
    obtain ⟨X_13, eX_13⟩ : ∃ Z : St, Z = u3 X_12 13 0 (nI j).toNatClampNeg k := ⟨_, rfl⟩
    rw [← eX_13] at hP
    have hd_X_13 : X_13 14 0 0 = nI j := by
      rw [eX_13]
      first | (rw [u3_n _ _ _ _ _ (by omega)]; exact hd_X_12) | (rw [sg_n _ _ _ (by omega)]; exact hd_X_12) | (rw [u3_g, b2_ni _ _ _ _ (by omega)]; exact hd_X_12) | skip
    refine lv_aload_n hx hb dX6_remember_38 rfl (lv_at hl 0 rfl) ?_
    refine xget (C := RX6) (T := TX6) (N := 10) (ci := 6) (w := .ref (am 3)) hx hb hts hi_X6 hown hK hP 0 rfl rfl 4 (by decide) lk_16 rfl dX6_remember_39 ?_
    refine lv_aload_n hx hb dX6_remember_42 rfl (lv_at hl 0 rfl) ?_
    refine xget (C := RX6) (T := TX6) (N := 10) (ci := 6) (w := .int (X_13 14 0 0)) hx hb hts hi_X6 hown hK hP 0 rfl rfl 1 (by decide) lk_47 rfl dX6_remember_43 ?_
    rw [hd_X_13]
    refine lv_iload_n hx hb dX6_remember_46 rfl (lv_at hl 2 rfl) ?_
    refine xast hx hb hK hP (wM_D hdj) hS 3 rfl (in12 rfl hj) wM_a1 dX6_remember_47 (fun H locs hP hS => ?_)
    obtain ⟨X_14, eX_14⟩ : ∃ Z : St, Z = u3 X_13 13 1 (nI j).toNatClampNeg o1 := ⟨_, rfl⟩
    rw [← eX_14] at hP
    have hd_X_14 : X_14 14 0 0 = nI j := by
      rw [eX_14]
      first | (rw [u3_n _ _ _ _ _ (by omega)]; exact hd_X_13) | (rw [sg_n _ _ _ (by omega)]; exact hd_X_13) | (rw [u3_g, b2_ni _ _ _ _ (by omega)]; exact hd_X_13) | skip
    refine lv_aload_n hx hb dX6_remember_48 rfl (lv_at hl 0 rfl) ?_
    refine xget (C := RX6) (T := TX6) (N := 10) (ci := 6) (w := .ref (am 4)) hx hb hts hi_X6 hown hK hP 0 rfl rfl 5 (by decide) lk_19 rfl dX6_remember_49 ?_
    refine lv_aload_n hx hb dX6_remember_52 rfl (lv_at hl 0 rfl) ?_
    refine xget (C := RX6) (T := TX6) (N := 10) (ci := 6) (w := .int (X_14 14 0 0)) hx hb hts hi_X6 hown hK hP 0 rfl rfl 1 (by decide) lk_47 rfl dX6_remember_53 ?_
    rw [hd_X_14]
    refine lv_iload_n hx hb dX6_remember_56 rfl (lv_at hl 3 rfl) ?_
    refine xast hx hb hK hP (wM_D hdj) hS 4 rfl (in12 rfl hj) wM_a2 dX6_remember_57 (fun H locs hP hS => ?_)
    obtain ⟨X_15, eX_15⟩ : ∃ Z : St, Z = u3 X_14 13 2 (nI j).toNatClampNeg o2 := ⟨_, rfl⟩
    rw [← eX_15] at hP
    have hd_X_15 : X_15 14 0 0 = nI j := by
      rw [eX_15]
      first | (rw [u3_n _ _ _ _ _ (by omega)]; exact hd_X_14) | (rw [sg_n _ _ _ (by omega)]; exact hd_X_14) | (rw [u3_g, b2_ni _ _ _ _ (by omega)]; exact hd_X_14) | skip
    refine lv_aload_n hx hb dX6_remember_58 rfl (lv_at hl 0 rfl) ?_
    refine xget (C := RX6) (T := TX6) (N := 10) (ci := 6) (w := .ref (am 5)) hx hb hts hi_X6 hown hK hP 0 rfl rfl 6 (by decide) lk_22 rfl dX6_remember_59 ?_
    refine lv_aload_n hx hb dX6_remember_62 rfl (lv_at hl 0 rfl) ?_
    refine xget (C := RX6) (T := TX6) (N := 10) (ci := 6) (w := .int (X_15 14 0 0)) hx hb hts hi_X6 hown hK hP 0 rfl rfl 1 (by decide) lk_47 rfl dX6_remember_63 ?_
    rw [hd_X_15]
    refine lv_iload hx hb dX6_remember_66 (lv_at hl 4 rfl) ?_
    refine xast hx hb hK hP (wM_D hdj) hS 5 rfl (in12 rfl hj) wM_a3 dX6_remember_68 (fun H locs hP hS => ?_)
    obtain ⟨X_16, eX_16⟩ : ∃ Z : St, Z = u3 X_15 13 3 (nI j).toNatClampNeg a := ⟨_, rfl⟩
    rw [← eX_16] at hP
    have hd_X_16 : X_16 14 0 0 = nI j := by
      rw [eX_16]
      first | (rw [u3_n _ _ _ _ _ (by omega)]; exact hd_X_15) | (rw [sg_n _ _ _ (by omega)]; exact hd_X_15) | (rw [u3_g, b2_ni _ _ _ _ (by omega)]; exact hd_X_15) | skip
    refine lv_aload_n hx hb dX6_remember_69 rfl (lv_at hl 0 rfl) ?_
    refine xget (C := RX6) (T := TX6) (N := 10) (ci := 6) (w := .ref (am 6)) hx hb hts hi_X6 hown hK hP 0 rfl rfl 7 (by decide) lk_25 rfl dX6_remember_70 ?_
    refine lv_aload_n hx hb dX6_remember_73 rfl (lv_at hl 0 rfl) ?_
    refine xget (C := RX6) (T := TX6) (N := 10) (ci := 6) (w := .int (X_16 14 0 0)) hx hb hts hi_X6 hown hK hP 0 rfl rfl 1 (by decide) lk_47 rfl dX6_remember_74 ?_
    rw [hd_X_16]
    refine lv_aload_n hx hb dX6_remember_77 rfl (lv_at hl 0 rfl) ?_
    refine xget (C := RX6) (T := TX6) (N := 10) (ci := 6) (w := .ref (am 1)) hx hb hts hi_X6 hown hK hP 0 rfl rfl 0 (by decide) lk_7 rfl dX6_remember_78 ?_
    refine lv_iconst (v := 0) hx hb dX6_remember_81 (by decide) ?_
    refine xald (x := X_16 0 14 0) hx hb hK hP 1 rfl (vp_in_lit (by decide)) (row_n _ (o := 0) (by decide)) dX6_remember_82 ?_
    refine xast hx hb hK hP (wM_D hdj) hS 6 rfl (in12 rfl hj) wM_a4 dX6_remember_83 (fun H locs hP hS => ?_)
    obtain ⟨X_17, eX_17⟩ : ∃ Z : St, Z = u3 X_16 13 4 (nI j).toNatClampNeg (X_16 0 14 0) := ⟨_, rfl⟩
    rw [← eX_17] at hP
    have hd_X_17 : X_17 14 0 0 = nI j := by
      rw [eX_17]
      first | (rw [u3_n _ _ _ _ _ (by omega)]; exact hd_X_16) | (rw [sg_n _ _ _ (by omega)]; exact hd_X_16) | (rw [u3_g, b2_ni _ _ _ _ (by omega)]; exact hd_X_16) | skip
    refine lv_aload_n hx hb dX6_remember_84 rfl (lv_at hl 0 rfl) ?_
    refine xget (C := RX6) (T := TX6) (N := 10) (ci := 6) (w := .ref (am 7)) hx hb hts hi_X6 hown hK hP 0 rfl rfl 8 (by decide) lk_28 rfl dX6_remember_85 ?_
    refine lv_aload_n hx hb dX6_remember_88 rfl (lv_at hl 0 rfl) ?_
    refine xget (C := RX6) (T := TX6) (N := 10) (ci := 6) (w := .int (X_17 14 0 0)) hx hb hts hi_X6 hown hK hP 0 rfl rfl 1 (by decide) lk_47 rfl dX6_remember_89 ?_
    rw [hd_X_17]
    refine lv_iconst (v := 0) hx hb dX6_remember_92 (by decide) ?_
    refine xast hx hb hK hP (wM_D hdj) hS 7 rfl (in12 rfl hj) wM_a5 dX6_remember_93 (fun H locs hP hS => ?_)
    obtain ⟨X_18, eX_18⟩ : ∃ Z : St, Z = u3 X_17 13 5 (nI j).toNatClampNeg 0 := ⟨_, rfl⟩
    rw [← eX_18] at hP
    have hd_X_18 : X_18 14 0 0 = nI j := by
      rw [eX_18]
      first | (rw [u3_n _ _ _ _ _ (by omega)]; exact hd_X_17) | (rw [sg_n _ _ _ (by omega)]; exact hd_X_17) | (rw [u3_g, b2_ni _ _ _ _ (by omega)]; exact hd_X_17) | skip
    refine lv_aload_n hx hb dX6_remember_94 rfl (lv_at hl 0 rfl) ?_
    refine xget (C := RX6) (T := TX6) (N := 10) (ci := 6) (w := .ref (am 8)) hx hb hts hi_X6 hown hK hP 0 rfl rfl 9 (by decide) lk_31 rfl dX6_remember_95 ?_
    refine lv_aload_n hx hb dX6_remember_98 rfl (lv_at hl 0 rfl) ?_
    refine xget (C := RX6) (T := TX6) (N := 10) (ci := 6) (w := .int (X_18 14 0 0)) hx hb hts hi_X6 hown hK hP 0 rfl rfl 1 (by decide) lk_47 rfl dX6_remember_99 ?_
    rw [hd_X_18]
    refine lv_aload_n hx hb dX6_remember_102 rfl (lv_at hl 0 rfl) ?_
    refine xget (C := RX6) (T := TX6) (N := 10) (ci := 6) (w := .int (X_18 14 0 1)) hx hb hts hi_X6 hown hK hP 0 rfl rfl 2 (by decide) lk_54 rfl dX6_remember_103 ?_
    refine xast hx hb hK hP (wM_D hdj) hS 8 rfl (in12 rfl hj) wM_a6 dX6_remember_106 (fun H locs hP hS => ?_)
    obtain ⟨X_19, eX_19⟩ : ∃ Z : St, Z = u3 X_18 13 6 (nI j).toNatClampNeg (X_18 14 0 1) := ⟨_, rfl⟩
    rw [← eX_19] at hP
    have hd_X_19 : X_19 14 0 0 = nI j := by
      rw [eX_19]
      first | (rw [u3_n _ _ _ _ _ (by omega)]; exact hd_X_18) | (rw [sg_n _ _ _ (by omega)]; exact hd_X_18) | (rw [u3_g, b2_ni _ _ _ _ (by omega)]; exact hd_X_18) | skip
    refine lv_aload_n hx hb dX6_remember_107 rfl (lv_at hl 0 rfl) ?_
    refine lv_dup hx hb dX6_remember_108 rfl ?_
    refine xget (C := RX6) (T := TX6) (N := 10) (ci := 6) (w := .int (X_19 14 0 1)) hx hb hts hi_X6 hown hK hP 0 rfl rfl 2 (by decide) lk_54 rfl dX6_remember_109 ?_
    refine lv_iconst (v := 1) hx hb dX6_remember_112 (by decide) ?_
    refine lv_iadd hx hb dX6_remember_113 ?_
    refine xput (C := RX6) (T := TX6) (N := 10) (ci := 6) hx hb hts hi_X6 tyX6 tyX6_ok nmX6 hown hK hP (wM_D hdj) hS 0 rfl rfl 2 (by decide) lk_54 rfl (by decide +kernel) (Nat.le_of_ble_eq_true rfl) wM_n1 dX6_remember_114 (fun H locs hP hS => ?_)
    obtain ⟨X_20, eX_20⟩ : ∃ Z : St, Z = u3 X_19 14 0 1 ((X_19 14 0 1) + 1) := ⟨_, rfl⟩
    rw [← eX_20] at hP
    have hd_X_20 : X_20 14 0 0 = nI j := by
      rw [eX_20]
      first | (rw [u3_n _ _ _ _ _ (by omega)]; exact hd_X_19) | (rw [sg_n _ _ _ (by omega)]; exact hd_X_19) | (rw [u3_g, b2_ni _ _ _ _ (by omega)]; exact hd_X_19) | skip
    refine lv_aload_n hx hb dX6_remember_117 rfl (lv_at hl 0 rfl) ?_
    refine lv_dup hx hb dX6_remember_118 rfl ?_
    refine xget (C := RX6) (T := TX6) (N := 10) (ci := 6) (w := .int (X_20 14 0 0)) hx hb hts hi_X6 hown hK hP 0 rfl rfl 1 (by decide) lk_47 rfl dX6_remember_119 ?_
    rw [hd_X_20]
    refine lv_iconst (v := 1) hx hb dX6_remember_122 (by decide) ?_
    refine lv_iadd hx hb dX6_remember_123 ?_
    refine xput (C := RX6) (T := TX6) (N := 10) (ci := 6) hx hb hts hi_X6 tyX6 tyX6_ok nmX6 hown hK hP (wM_D hdj) hS 0 rfl rfl 1 (by decide) lk_47 rfl (by decide +kernel) (Nat.le_of_ble_eq_true rfl) wM_n0 dX6_remember_124 (fun H locs hP hS => ?_)
    obtain ⟨X_21, eX_21⟩ : ∃ Z : St, Z = u3 X_20 14 0 0 ((nI j) + 1) := ⟨_, rfl⟩
    rw [← eX_21] at hP
    have hZ : X_21 = N_remM Y n k o1 o2 a := by
      subst eX_21 eX_20 eX_19 eX_18 eX_17 eX_16 eX_15 eX_14 eX_13 eX_12 eX_11
      subst ej
      unfold N_remM
      first | rw [ci_t hn2] | rw [ci_f hn2]
      rfl
    exact retWV hx hb hr hlocks (by rw [← hZ]; exact hP) hS dX6_remember_127
set_option maxHeartbeats 4000000 in
set_option maxRecDepth 100000 in
theorem c_X6_undo {l : Launch} {D : va_G} {cI cR : ClassId} {am : Nat → Nat} (hdj : Dj 9 am) (Y : St) (n : Nat) (hn : n ≤ 12) (hd : Y 14 0 0 = nI n) : WoE l D cI cR (Aw 9 am) (wM cI am Y) (wM cI am (ci (n = 0) Y (N_undoM Y (n - 1)))) yX6_undo wsX6_undo ({ frames := 1, cells := 0, slots := 0, locals := 23 } : Room) [.ref (am 0)] (ci (n = 0) (-2) (nI (n - 1))) := by
  refine OfW (cc := cX6_undo) (maxL := 2) (ret := (some .int)) (by decide +kernel) rfl (Nat.le_of_ble_eq_true rfl) (fun p e s m below meth c hx hb hr hts hown hlocks hml hnm hP hK hN ls hl => ?_)
  have hl : lv_has ls 2 [(0, .ref (am 0))] := hl
  have lk_47 := hts (.fieldLink RX6 47 "HeadBudgetsModel" "deeds" "I") (by decide +kernel)
  have lk_13 := hts (.fieldLink RX6 13 "HeadBudgetsModel" "kinds" "[I") (by decide +kernel)
  have lk_28 := hts (.fieldLink RX6 28 "HeadBudgetsModel" "revoked" "[I") (by decide +kernel)
  have lk_31 := hts (.fieldLink RX6 31 "HeadBudgetsModel" "numbers" "[I") (by decide +kernel)
  have lk_16 := hts (.fieldLink RX6 16 "HeadBudgetsModel" "ones" "[I") (by decide +kernel)
  have hi_X6 : ∀ w ∈ wsX60, w ∈ wsX6_undo := by decide +kernel
  have hS : va_S (Aw 9 am) s.heap s.heap [] := va_S.rf
  have hP : va_P D vwCl (wM cI am Y) s.heap := hP
  refine lv_aload_n hx hb dX6_undo_0 rfl (lv_at hl 0 rfl) ?_
  refine xget (C := RX6) (T := TX6) (N := 10) (ci := 6) (w := .int (Y 14 0 0)) hx hb hts hi_X6 hown hK hP 0 rfl rfl 1 (by decide) lk_47 rfl dX6_undo_1 ?_
  refine lv_if_ne (tgt := 10) hx hb dX6_undo_4 (by decide) (fun c_4 => ?_) (fun c_4 => ?_)
  · obtain ⟨j, ej⟩ : ∃ j : Nat, n = j + 1 := ⟨n - 1, by have : n ≠ 0 := (fun z => c_4 (by rw [hd, z]; rfl)); omega⟩
    have hj : j < 12 := by omega
    have ev : Y 14 0 0 - 1 = nI j := by rw [hd, ej]; exact nI_pred j
    have ejj : (nI j).toNatClampNeg = j := nI_c (by omega)
    refine lv_aload_n hx hb dX6_undo_10 rfl (lv_at hl 0 rfl) ?_
    refine lv_dup hx hb dX6_undo_11 rfl ?_
    refine xget (C := RX6) (T := TX6) (N := 10) (ci := 6) (w := .int (Y 14 0 0)) hx hb hts hi_X6 hown hK hP 0 rfl rfl 1 (by decide) lk_47 rfl dX6_undo_12 ?_
    refine lv_iconst (v := 1) hx hb dX6_undo_15 (by decide) ?_
    refine lv_isub hx hb dX6_undo_16 ?_
    rw [ev]
    refine xput (C := RX6) (T := TX6) (N := 10) (ci := 6) hx hb hts hi_X6 tyX6 tyX6_ok nmX6 hown hK hP (wM_D hdj) hS 0 rfl rfl 1 (by decide) lk_47 rfl (by decide +kernel) (Nat.le_of_ble_eq_true rfl) wM_n0 dX6_undo_17 (fun H locs hP hS => ?_)
    obtain ⟨X_1, eX_1⟩ : ∃ Z : St, Z = u3 Y 14 0 0 (nI j) := ⟨_, rfl⟩
    rw [← eX_1] at hP
    have hd_X_1 : X_1 14 0 0 = nI j := by rw [eX_1, u3_g, b2_s]
    refine lv_aload_n hx hb dX6_undo_20 rfl (lv_at hl 0 rfl) ?_
    refine lv_sipush (v := 346) hx hb dX6_undo_21 (by decide) ?_
    refine lv_aload_n hx hb dX6_undo_24 rfl (lv_at hl 0 rfl) ?_
    refine xget (C := RX6) (T := TX6) (N := 10) (ci := 6) (w := .int (X_1 14 0 0)) hx hb hts hi_X6 hown hK hP 0 rfl rfl 1 (by decide) lk_47 rfl dX6_undo_25 ?_
    rw [hd_X_1]
    refine lv_iconst (v := 1) hx hb dX6_undo_28 (by decide) ?_
    refine lv_iadd hx hb dX6_undo_29 ?_
    refine lv_imul hx hb dX6_undo_30 ?_
    refine lv_iconst (v := 0) hx hb dX6_undo_31 (by decide) ?_
    refine callWV (As := [.int (346 * ((nI j) + 1)), .int 0]) (rest := []) ⟨hx, hb, hml, hown, hts⟩ (c_X6_copy hdj X_1 (346 * ((nI j) + 1)) 0 (j + 1) 0 (by omega) (by decide) (by omega) (n346 j 1) rfl) (cwV 2 hts gX6_undo_X6_copy rfl rfl rfl (by decide +kernel) ⟨Nat.le_of_ble_eq_true rfl, Nat.le_of_ble_eq_true rfl⟩) hK hN hP 0 rfl rfl rfl hl.1 rfl (Nat.le_of_ble_eq_true rfl) dX6_undo_32 ⟨Nat.zero_le _, Nat.zero_le _⟩ hS (fun _ h9 => h9) (fun H locs hP hS => ?_)
    obtain ⟨X_2, eX_2⟩ : ∃ Z : St, Z = sg X_1 0 (X_1 (j + 1)) := ⟨_, rfl⟩
    rw [← eX_2] at hP
    have hd_X_2 : X_2 14 0 0 = nI j := by rw [eX_2, sg_n _ _ _ (by omega)]; exact hd_X_1
    refine lv_iconst (v := 0) hx hb dX6_undo_35 (by decide) ?_
    refine lv_istore_n (lv' := [(1, .int 0), (0, .ref (am 0))]) hx hb dX6_undo_36 rfl hl (by decide) rfl (fun ls hl => ?_)
    have hloop_37 : ∀ (n_37 : Nat) (k : Nat) (xk : Int32) (XL_37 : St) (H : Heap) (locs : List Loc), va_P D vwCl (wM cI am XL_37) H → va_S (Aw 9 am) s.heap H locs → k ≤ j → j < k + n_37 → xk = nI k → XL_37 = unrev X_2 j k → (k = 0 ∨ X_2 13 0 j = 10) → XL_37 14 0 0 = nI j → ∀ ls : Array Slot, lv_has ls 2 [(0, .ref (am 0)), (1, .int xk)] → W p l e ({ frames := 1, cells := 0, slots := 0, locals := 23 } : Room) s m ([.ref (am 0)]).toArray below meth c H locs 0 0 (MQ below (va_Qi (S := Unit) (fun r _ => r = ci (n = 0) (-2) (nI (n - 1))) (fun _ t => va_P D vwCl (wM cI am (ci (n = 0) Y (N_undoM Y (n - 1)))) t.heap) (Aw 9 am)) ([.ref (am 0)]).toArray s 0 0 (Aw 9 am)) (F0 m 37 ls []) := by
      intro n_37
      induction n_37 with
      | zero =>
        intro k xk XL_37 H locs hP hS hk hkn ek ea eb hd_XL ls hl
        exfalso; omega
      | succ n_37 ih_37 =>
        intro k xk XL_37 H locs hP hS hk hkn ek ea eb hd_XL ls hl
        refine lv_iload_n hx hb dX6_undo_37 rfl (lv_at hl 1 rfl) ?_
        refine lv_aload_n hx hb dX6_undo_38 rfl (lv_at hl 0 rfl) ?_
        refine xget (C := RX6) (T := TX6) (N := 10) (ci := 6) (w := .int (XL_37 14 0 0)) hx hb hts hi_X6 hown hK hP 0 rfl rfl 1 (by decide) lk_47 rfl dX6_undo_39 ?_
        rw [hd_XL]
        refine lv_icmp_ge (tgt := 99) hx hb dX6_undo_42 (by decide) (fun c_42 => ?_) (fun c_42 => ?_)
        · have hk2 : k = j := by
            rw [ek] at c_42
            have := (nI_le_nI (by omega) (by omega)).mp c_42
            omega
          refine lv_aload_n hx hb dX6_undo_99 rfl (lv_at hl 0 rfl) ?_
          refine xget (C := RX6) (T := TX6) (N := 10) (ci := 6) (w := .int (XL_37 14 0 0)) hx hb hts hi_X6 hown hK hP 0 rfl rfl 1 (by decide) lk_47 rfl dX6_undo_100 ?_
          rw [hd_XL]
          have hZ : XL_37 = ci (n = 0) Y (N_undoM Y (n - 1)) := by
            have e2 : X_2 = undo0 Y j := by
              rw [eX_2, eX_1]
              unfold undo0
              rw [u3_n Y 14 0 0 _ (a := j + 1) (by omega)]
            have e3 : X_2 13 0 j = Y 13 0 j := by
              rw [e2]
              unfold undo0
              rw [sg_n _ _ _ (by omega), u3_n _ _ _ _ _ (by omega)]
            rw [ci_f (by omega), show n - 1 = j by omega]
            unfold N_undoM
            rw [← e3, ← e2]
            rw [ea, hk2]
            by_cases z : X_2 13 0 j = 10
            · rw [ci_t z]
            · rw [ci_f z]
              rcases eb with y | y
              · rw [← hk2, y]; rfl
              · exact absurd y z
          exact retWE hx hb hr hlocks (by rw [← hZ]; exact hP) hS dX6_undo_103 (by rw [ci_f (by omega), show n - 1 = j by omega])
        · have hlt : k < j := by
            rw [ek] at c_42
            have : ¬ j ≤ k := fun z => c_42 ((nI_le_nI (by omega) (by omega)).mpr z)
            omega
          refine lv_aload_n hx hb dX6_undo_45 rfl (lv_at hl 0 rfl) ?_
          refine xget (C := RX6) (T := TX6) (N := 10) (ci := 6) (w := .ref (am 2)) hx hb hts hi_X6 hown hK hP 0 rfl rfl 3 (by decide) lk_13 rfl dX6_undo_46 ?_
          refine lv_aload_n hx hb dX6_undo_49 rfl (lv_at hl 0 rfl) ?_
          refine xget (C := RX6) (T := TX6) (N := 10) (ci := 6) (w := .int (XL_37 14 0 0)) hx hb hts hi_X6 hown hK hP 0 rfl rfl 1 (by decide) lk_47 rfl dX6_undo_50 ?_
          rw [hd_XL]
          refine xald (x := XL_37 13 0 (nI j).toNatClampNeg) hx hb hK hP 2 rfl (in12 rfl hj) rfl dX6_undo_53 ?_
          refine lv_bipush (v := 10) hx hb dX6_undo_54 (by decide) ?_
          refine lv_icmp_ne (tgt := 99) hx hb dX6_undo_56 (by decide) (fun c_56 => ?_) (fun c_56 => ?_)
          · refine lv_aload_n hx hb dX6_undo_99 rfl (lv_at hl 0 rfl) ?_
            refine xget (C := RX6) (T := TX6) (N := 10) (ci := 6) (w := .int (XL_37 14 0 0)) hx hb hts hi_X6 hown hK hP 0 rfl rfl 1 (by decide) lk_47 rfl dX6_undo_100 ?_
            rw [hd_XL]
            have hZ : XL_37 = ci (n = 0) Y (N_undoM Y (n - 1)) := by
              have e2 : X_2 = undo0 Y j := by
                rw [eX_2, eX_1]
                unfold undo0
                rw [u3_n Y 14 0 0 _ (a := j + 1) (by omega)]
              have e3 : X_2 13 0 j = Y 13 0 j := by
                rw [e2]
                unfold undo0
                rw [sg_n _ _ _ (by omega), u3_n _ _ _ _ _ (by omega)]
              rw [ci_f (by omega), show n - 1 = j by omega]
              unfold N_undoM
              rw [← e3, ← e2]
              rw [ejj, ea, unrev_f _ _ (by omega)] at c_56
              rw [ci_f c_56, ea]
              rcases eb with z | z
              · rw [z]; rfl
              · exact absurd z c_56
            exact retWE hx hb hr hlocks (by rw [← hZ]; exact hP) hS dX6_undo_103 (by rw [ci_f (by omega), show n - 1 = j by omega])
          · refine lv_aload_n hx hb dX6_undo_59 rfl (lv_at hl 0 rfl) ?_
            refine xget (C := RX6) (T := TX6) (N := 10) (ci := 6) (w := .ref (am 7)) hx hb hts hi_X6 hown hK hP 0 rfl rfl 8 (by decide) lk_28 rfl dX6_undo_60 ?_
            refine lv_iload_n hx hb dX6_undo_63 rfl (lv_at hl 1 rfl) ?_
            refine lv_aload_n hx hb dX6_undo_64 rfl (lv_at hl 0 rfl) ?_
            refine xget (C := RX6) (T := TX6) (N := 10) (ci := 6) (w := .ref (am 8)) hx hb hts hi_X6 hown hK hP 0 rfl rfl 9 (by decide) lk_31 rfl dX6_undo_65 ?_
            refine lv_iload_n hx hb dX6_undo_68 rfl (lv_at hl 1 rfl) ?_
            refine xald (x := XL_37 13 6 xk.toNatClampNeg) hx hb hK hP 8 rfl (in12 ek (by omega)) rfl dX6_undo_69 ?_
            refine lv_aload_n hx hb dX6_undo_70 rfl (lv_at hl 0 rfl) ?_
            refine xget (C := RX6) (T := TX6) (N := 10) (ci := 6) (w := .ref (am 3)) hx hb hts hi_X6 hown hK hP 0 rfl rfl 4 (by decide) lk_16 rfl dX6_undo_71 ?_
            refine lv_aload_n hx hb dX6_undo_74 rfl (lv_at hl 0 rfl) ?_
            refine xget (C := RX6) (T := TX6) (N := 10) (ci := 6) (w := .int (XL_37 14 0 0)) hx hb hts hi_X6 hown hK hP 0 rfl rfl 1 (by decide) lk_47 rfl dX6_undo_75 ?_
            rw [hd_XL]
            refine xald (x := XL_37 13 1 (nI j).toNatClampNeg) hx hb hK hP 3 rfl (in12 rfl hj) rfl dX6_undo_78 ?_
            refine lv_icmp_ne (tgt := 86) hx hb dX6_undo_79 (by decide) (fun c_79 => ?_) (fun c_79 => ?_)
            · refine lv_aload_n hx hb dX6_undo_86 rfl (lv_at hl 0 rfl) ?_
              refine xget (C := RX6) (T := TX6) (N := 10) (ci := 6) (w := .ref (am 7)) hx hb hts hi_X6 hown hK hP 0 rfl rfl 8 (by decide) lk_28 rfl dX6_undo_87 ?_
              refine lv_iload_n hx hb dX6_undo_90 rfl (lv_at hl 1 rfl) ?_
              refine xald (x := XL_37 13 5 xk.toNatClampNeg) hx hb hK hP 7 rfl (in12 ek (by omega)) rfl dX6_undo_91 ?_
              refine xast hx hb hK hP (wM_D hdj) hS 7 rfl (in12 ek (by omega)) wM_a5 dX6_undo_92 (fun H locs hP hS => ?_)
              obtain ⟨X_3, eX_3⟩ : ∃ Z : St, Z = u3 XL_37 13 5 xk.toNatClampNeg (XL_37 13 5 xk.toNatClampNeg) := ⟨_, rfl⟩
              rw [← eX_3] at hP
              refine lv_iinc (v := xk + 1) (lv' := [(1, .int (xk + 1)), (0, .ref (am 0))]) hx hb dX6_undo_93 hl (k := 1) rfl rfl (by decide) rfl (fun ls hl => ?_)
              refine lv_goto (tgt := 37) hx hb dX6_undo_96 (by decide) ?_
              have hz : X_3 = unrev X_2 j (k + 1) := by
                have e0 : xk.toNatClampNeg = k := by rw [ek]; exact nI_c (by omega)
                rw [eX_3]
                rw [e0, ejj, ea] at c_79
                rw [e0, ea]
                show _ = u3 (unrev X_2 j k) 13 5 k _
                first | rw [ci_t c_79] | rw [ci_f c_79]
              exact ih_37  (k + 1) _ X_3 _ _ hP hS (by omega) (by omega) (by rw [ek]; exact nI_1 k) hz (Or.inr (by rw [ejj, ea, unrev_f _ _ (by omega)] at c_56; exact c_56)) (by rw [eX_3, u3_n _ _ _ _ _ (by omega)]; exact hd_XL) _ (lv_sub hl [1, 0] rfl)
            · refine lv_iconst (v := 0) hx hb dX6_undo_82 (by decide) ?_
              refine lv_goto (tgt := 92) hx hb dX6_undo_83 (by decide) ?_
              refine xast hx hb hK hP (wM_D hdj) hS 7 rfl (in12 ek (by omega)) wM_a5 dX6_undo_92 (fun H locs hP hS => ?_)
              obtain ⟨X_4, eX_4⟩ : ∃ Z : St, Z = u3 XL_37 13 5 xk.toNatClampNeg 0 := ⟨_, rfl⟩
              rw [← eX_4] at hP
              refine lv_iinc (v := xk + 1) (lv' := [(1, .int (xk + 1)), (0, .ref (am 0))]) hx hb dX6_undo_93 hl (k := 1) rfl rfl (by decide) rfl (fun ls hl => ?_)
              refine lv_goto (tgt := 37) hx hb dX6_undo_96 (by decide) ?_
              have hz : X_4 = unrev X_2 j (k + 1) := by
                have e0 : xk.toNatClampNeg = k := by rw [ek]; exact nI_c (by omega)
                rw [eX_4]
                rw [e0, ejj, ea] at c_79
                rw [e0, ea]
                show _ = u3 (unrev X_2 j k) 13 5 k _
                first | rw [ci_t c_79] | rw [ci_f c_79]
              exact ih_37  (k + 1) _ X_4 _ _ hP hS (by omega) (by omega) (by rw [ek]; exact nI_1 k) hz (Or.inr (by rw [ejj, ea, unrev_f _ _ (by omega)] at c_56; exact c_56)) (by rw [eX_4, u3_n _ _ _ _ _ (by omega)]; exact hd_XL) _ (lv_sub hl [1, 0] rfl)
    exact hloop_37  (j + 1) 0 0 X_2 _ _ hP hS (by omega) (by omega) rfl rfl (Or.inl rfl) hd_X_2 _ (lv_sub hl [1, 0] rfl)
  · have hn0 : n = 0 := by
      rw [hd] at c_4
      exact (nI_eq (b := 0) (by omega) (by omega)).mp c_4
    refine lv_bipush (v := (-2)) hx hb dX6_undo_7 (by decide) ?_
    have hZ : Y = ci (n = 0) Y (N_undoM Y (n - 1)) := by
      exact (ci_t hn0).symm
    exact retWE hx hb hr hlocks (by rw [← hZ]; exact hP) hS dX6_undo_9 (ci_t hn0).symm
