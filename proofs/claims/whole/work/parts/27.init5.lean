def YZ : St := fun _ _ _ => 0
theorem row_z : rowM YZ = fun _ => 0 := by
  funext k
  unfold rowM dcd YZ
  simp
theorem wM_Fr {cI : ClassId} {am : Nat → Nat} {Y : St} {h0 sz : Nat} (h : Dj 9 am) (hF : ∀ j, j < 9 → Fr h0 sz (am j)) : va_D (Fr h0 sz) (wM cI am Y) :=
  (wM_D h).weaken (fun k q _ z => z.elim (fun k z => by rw [z.2]; exact hF k z.1))
def EW (cI : ClassId) (a : Nat → Nat) (j : Nat) : va_E := if j = 0 then .inr (6, [.ref (a 1), .int 0, .int 0, .ref (a 2), .ref (a 3), .ref (a 4), .ref (a 5), .ref (a 6), .ref (a 7), .ref (a 8)]) else if j = 1 then .inl (cI, 4498, .inl (fun _ => 0)) else .inl (cI, 12, .inl (fun _ => 0))
def Y0c : St := u3 (u3 (u3 (u3 YZ 0 14 1 1) 0 14 3 10) 0 0 (0 : Int32).toNatClampNeg (-9)) 0 8 (0 : Int32).toNatClampNeg 50
set_option maxHeartbeats 4000000 in
set_option maxRecDepth 100000 in
theorem c_X6_init {l : Launch} {D : va_G} {cI cR : ClassId} : MkG l D cI cR 6 [.null, .int 0, .int 0, .null, .null, .null, .null, .null, .null, .null] 9 0 (fun am => wM cI am Y0c) yX6_init wsX6_init ({ frames := 1, cells := 8, slots := 4582, locals := 30 } : Room) 8 4582 := by
  refine OfMkG (cc := cX6_init) (maxL := 1) (by decide +kernel) rfl (Nat.le_of_ble_eq_true rfl) (fun h0 p e s m below meth c hx hb hr hts hown hlocks hml hnm hP hD hK hN hO ls hl => ?_)
  have hin0 : meth.name = "<init>" := hnm
  have hin := hin0
  have hA : ∀ q, s.heap.size ≤ q → Fr h0 s.heap.size q := fun q h => Or.inr h
  have hS : va_S (Fr h0 s.heap.size) s.heap s.heap [] := va_S.rf
  have hi_X6 : ∀ w ∈ wsX60, w ∈ wsX6_init := by decide +kernel
  refine lv_aload_n hx hb dX6_init_0 rfl (lv_at hl 0 rfl) ?_
  refine W.objInit hx hb hown (hts (.methodLink RX6 1 objectInit) (by decide +kernel)) (hts (.instanceMethod objectInit) (by decide +kernel)) (hts (.code objectInit ⟨#[0xb1]⟩ 1 none) (List.mem_of_getElem? (i := 3) rfl)) rfl (by rw [hml]; exact hl.1) rfl dX6_init_1 (Nat.le_of_ble_eq_true rfl) (Nat.le_of_ble_eq_true rfl) ?_
  refine W.eq (g2 := F0 m 4 ls []) rfl ?_
  refine lv_aload_n hx hb dX6_init_4 rfl (lv_at hl 0 rfl) ?_
  refine lv_sipush (v := 4498) hx hb dX6_init_5 (by decide) ?_
  refine xnewa (N' := 4498) hx hb (hts (.arrayClass .int) (by decide +kernel)) hK hP hD hS hA (by decide) (by decide) (by decide) (Nat.le_of_ble_eq_true rfl) (Nat.le_of_ble_eq_true rfl) dX6_init_8 (fun q8 H hP hD hS => ?_)
  have hP : va_P D vwCl [(h0, .inr (6, [.null, .int 0, .int 0, .null, .null, .null, .null, .null, .null, .null])), (q8, .inl (cI, 4498, .inl (fun _ => 0)))] H := hP
  have hD : va_D (Fr h0 s.heap.size) [(h0, .inr (6, [.null, .int 0, .int 0, .null, .null, .null, .null, .null, .null, .null])), (q8, .inl (cI, 4498, .inl (fun _ => 0)))] := hD
  refine xputF (C := RX6) (T := TX6) (N := 10) (ci := 6) (v := .ref q8) (ty := .array .int) (ws' := [(h0, .inr (6, [.ref q8, .int 0, .int 0, .null, .null, .null, .null, .null, .null, .null])), (q8, .inl (cI, 4498, .inl (fun _ => 0)))]) hx hb hts hi_X6 tyX6 tyX6_ok nmX6 hown hK hP hD hS 0 rfl rfl 0 (by decide) (hts (.fieldLink RX6 7 "HeadBudgetsModel" "row" "[I") (by decide +kernel)) rfl hin rfl (by decide +kernel) rfl rfl (Nat.le_of_ble_eq_true rfl) rfl dX6_init_10 (fun H locs hP hD hS => ?_)
  refine lv_aload_n hx hb dX6_init_13 rfl (lv_at hl 0 rfl) ?_
  refine lv_bipush (v := 12) hx hb dX6_init_14 (by decide) ?_
  refine xnewa (N' := 12) hx hb (hts (.arrayClass .int) (by decide +kernel)) hK hP hD hS hA (by decide) (by decide) (by decide) (Nat.le_of_ble_eq_true rfl) (Nat.le_of_ble_eq_true rfl) dX6_init_16 (fun q16 H hP hD hS => ?_)
  have hP : va_P D vwCl [(h0, .inr (6, [.ref q8, .int 0, .int 0, .null, .null, .null, .null, .null, .null, .null])), (q8, .inl (cI, 4498, .inl (fun _ => 0))), (q16, .inl (cI, 12, .inl (fun _ => 0)))] H := hP
  have hD : va_D (Fr h0 s.heap.size) [(h0, .inr (6, [.ref q8, .int 0, .int 0, .null, .null, .null, .null, .null, .null, .null])), (q8, .inl (cI, 4498, .inl (fun _ => 0))), (q16, .inl (cI, 12, .inl (fun _ => 0)))] := hD
  refine xputF (C := RX6) (T := TX6) (N := 10) (ci := 6) (v := .ref q16) (ty := .array .int) (ws' := [(h0, .inr (6, [.ref q8, .int 0, .int 0, .ref q16, .null, .null, .null, .null, .null, .null])), (q8, .inl (cI, 4498, .inl (fun _ => 0))), (q16, .inl (cI, 12, .inl (fun _ => 0)))]) hx hb hts hi_X6 tyX6 tyX6_ok nmX6 hown hK hP hD hS 0 rfl rfl 3 (by decide) (hts (.fieldLink RX6 13 "HeadBudgetsModel" "kinds" "[I") (by decide +kernel)) rfl hin rfl (by decide +kernel) rfl rfl (Nat.le_of_ble_eq_true rfl) rfl dX6_init_18 (fun H locs hP hD hS => ?_)
  refine lv_aload_n hx hb dX6_init_21 rfl (lv_at hl 0 rfl) ?_
  refine lv_bipush (v := 12) hx hb dX6_init_22 (by decide) ?_
  refine xnewa (N' := 12) hx hb (hts (.arrayClass .int) (by decide +kernel)) hK hP hD hS hA (by decide) (by decide) (by decide) (Nat.le_of_ble_eq_true rfl) (Nat.le_of_ble_eq_true rfl) dX6_init_24 (fun q24 H hP hD hS => ?_)
  have hP : va_P D vwCl [(h0, .inr (6, [.ref q8, .int 0, .int 0, .ref q16, .null, .null, .null, .null, .null, .null])), (q8, .inl (cI, 4498, .inl (fun _ => 0))), (q16, .inl (cI, 12, .inl (fun _ => 0))), (q24, .inl (cI, 12, .inl (fun _ => 0)))] H := hP
  have hD : va_D (Fr h0 s.heap.size) [(h0, .inr (6, [.ref q8, .int 0, .int 0, .ref q16, .null, .null, .null, .null, .null, .null])), (q8, .inl (cI, 4498, .inl (fun _ => 0))), (q16, .inl (cI, 12, .inl (fun _ => 0))), (q24, .inl (cI, 12, .inl (fun _ => 0)))] := hD
  refine xputF (C := RX6) (T := TX6) (N := 10) (ci := 6) (v := .ref q24) (ty := .array .int) (ws' := [(h0, .inr (6, [.ref q8, .int 0, .int 0, .ref q16, .ref q24, .null, .null, .null, .null, .null])), (q8, .inl (cI, 4498, .inl (fun _ => 0))), (q16, .inl (cI, 12, .inl (fun _ => 0))), (q24, .inl (cI, 12, .inl (fun _ => 0)))]) hx hb hts hi_X6 tyX6 tyX6_ok nmX6 hown hK hP hD hS 0 rfl rfl 4 (by decide) (hts (.fieldLink RX6 16 "HeadBudgetsModel" "ones" "[I") (by decide +kernel)) rfl hin rfl (by decide +kernel) rfl rfl (Nat.le_of_ble_eq_true rfl) rfl dX6_init_26 (fun H locs hP hD hS => ?_)
  refine lv_aload_n hx hb dX6_init_29 rfl (lv_at hl 0 rfl) ?_
  refine lv_bipush (v := 12) hx hb dX6_init_30 (by decide) ?_
  refine xnewa (N' := 12) hx hb (hts (.arrayClass .int) (by decide +kernel)) hK hP hD hS hA (by decide) (by decide) (by decide) (Nat.le_of_ble_eq_true rfl) (Nat.le_of_ble_eq_true rfl) dX6_init_32 (fun q32 H hP hD hS => ?_)
  have hP : va_P D vwCl [(h0, .inr (6, [.ref q8, .int 0, .int 0, .ref q16, .ref q24, .null, .null, .null, .null, .null])), (q8, .inl (cI, 4498, .inl (fun _ => 0))), (q16, .inl (cI, 12, .inl (fun _ => 0))), (q24, .inl (cI, 12, .inl (fun _ => 0))), (q32, .inl (cI, 12, .inl (fun _ => 0)))] H := hP
  have hD : va_D (Fr h0 s.heap.size) [(h0, .inr (6, [.ref q8, .int 0, .int 0, .ref q16, .ref q24, .null, .null, .null, .null, .null])), (q8, .inl (cI, 4498, .inl (fun _ => 0))), (q16, .inl (cI, 12, .inl (fun _ => 0))), (q24, .inl (cI, 12, .inl (fun _ => 0))), (q32, .inl (cI, 12, .inl (fun _ => 0)))] := hD
  refine xputF (C := RX6) (T := TX6) (N := 10) (ci := 6) (v := .ref q32) (ty := .array .int) (ws' := [(h0, .inr (6, [.ref q8, .int 0, .int 0, .ref q16, .ref q24, .ref q32, .null, .null, .null, .null])), (q8, .inl (cI, 4498, .inl (fun _ => 0))), (q16, .inl (cI, 12, .inl (fun _ => 0))), (q24, .inl (cI, 12, .inl (fun _ => 0))), (q32, .inl (cI, 12, .inl (fun _ => 0)))]) hx hb hts hi_X6 tyX6 tyX6_ok nmX6 hown hK hP hD hS 0 rfl rfl 5 (by decide) (hts (.fieldLink RX6 19 "HeadBudgetsModel" "others" "[I") (by decide +kernel)) rfl hin rfl (by decide +kernel) rfl rfl (Nat.le_of_ble_eq_true rfl) rfl dX6_init_34 (fun H locs hP hD hS => ?_)
  refine lv_aload_n hx hb dX6_init_37 rfl (lv_at hl 0 rfl) ?_
  refine lv_bipush (v := 12) hx hb dX6_init_38 (by decide) ?_
  refine xnewa (N' := 12) hx hb (hts (.arrayClass .int) (by decide +kernel)) hK hP hD hS hA (by decide) (by decide) (by decide) (Nat.le_of_ble_eq_true rfl) (Nat.le_of_ble_eq_true rfl) dX6_init_40 (fun q40 H hP hD hS => ?_)
  have hP : va_P D vwCl [(h0, .inr (6, [.ref q8, .int 0, .int 0, .ref q16, .ref q24, .ref q32, .null, .null, .null, .null])), (q8, .inl (cI, 4498, .inl (fun _ => 0))), (q16, .inl (cI, 12, .inl (fun _ => 0))), (q24, .inl (cI, 12, .inl (fun _ => 0))), (q32, .inl (cI, 12, .inl (fun _ => 0))), (q40, .inl (cI, 12, .inl (fun _ => 0)))] H := hP
  have hD : va_D (Fr h0 s.heap.size) [(h0, .inr (6, [.ref q8, .int 0, .int 0, .ref q16, .ref q24, .ref q32, .null, .null, .null, .null])), (q8, .inl (cI, 4498, .inl (fun _ => 0))), (q16, .inl (cI, 12, .inl (fun _ => 0))), (q24, .inl (cI, 12, .inl (fun _ => 0))), (q32, .inl (cI, 12, .inl (fun _ => 0))), (q40, .inl (cI, 12, .inl (fun _ => 0)))] := hD
  refine xputF (C := RX6) (T := TX6) (N := 10) (ci := 6) (v := .ref q40) (ty := .array .int) (ws' := [(h0, .inr (6, [.ref q8, .int 0, .int 0, .ref q16, .ref q24, .ref q32, .ref q40, .null, .null, .null])), (q8, .inl (cI, 4498, .inl (fun _ => 0))), (q16, .inl (cI, 12, .inl (fun _ => 0))), (q24, .inl (cI, 12, .inl (fun _ => 0))), (q32, .inl (cI, 12, .inl (fun _ => 0))), (q40, .inl (cI, 12, .inl (fun _ => 0)))]) hx hb hts hi_X6 tyX6 tyX6_ok nmX6 hown hK hP hD hS 0 rfl rfl 6 (by decide) (hts (.fieldLink RX6 22 "HeadBudgetsModel" "amounts" "[I") (by decide +kernel)) rfl hin rfl (by decide +kernel) rfl rfl (Nat.le_of_ble_eq_true rfl) rfl dX6_init_42 (fun H locs hP hD hS => ?_)
  refine lv_aload_n hx hb dX6_init_45 rfl (lv_at hl 0 rfl) ?_
  refine lv_bipush (v := 12) hx hb dX6_init_46 (by decide) ?_
  refine xnewa (N' := 12) hx hb (hts (.arrayClass .int) (by decide +kernel)) hK hP hD hS hA (by decide) (by decide) (by decide) (Nat.le_of_ble_eq_true rfl) (Nat.le_of_ble_eq_true rfl) dX6_init_48 (fun q48 H hP hD hS => ?_)
  have hP : va_P D vwCl [(h0, .inr (6, [.ref q8, .int 0, .int 0, .ref q16, .ref q24, .ref q32, .ref q40, .null, .null, .null])), (q8, .inl (cI, 4498, .inl (fun _ => 0))), (q16, .inl (cI, 12, .inl (fun _ => 0))), (q24, .inl (cI, 12, .inl (fun _ => 0))), (q32, .inl (cI, 12, .inl (fun _ => 0))), (q40, .inl (cI, 12, .inl (fun _ => 0))), (q48, .inl (cI, 12, .inl (fun _ => 0)))] H := hP
  have hD : va_D (Fr h0 s.heap.size) [(h0, .inr (6, [.ref q8, .int 0, .int 0, .ref q16, .ref q24, .ref q32, .ref q40, .null, .null, .null])), (q8, .inl (cI, 4498, .inl (fun _ => 0))), (q16, .inl (cI, 12, .inl (fun _ => 0))), (q24, .inl (cI, 12, .inl (fun _ => 0))), (q32, .inl (cI, 12, .inl (fun _ => 0))), (q40, .inl (cI, 12, .inl (fun _ => 0))), (q48, .inl (cI, 12, .inl (fun _ => 0)))] := hD
  refine xputF (C := RX6) (T := TX6) (N := 10) (ci := 6) (v := .ref q48) (ty := .array .int) (ws' := [(h0, .inr (6, [.ref q8, .int 0, .int 0, .ref q16, .ref q24, .ref q32, .ref q40, .ref q48, .null, .null])), (q8, .inl (cI, 4498, .inl (fun _ => 0))), (q16, .inl (cI, 12, .inl (fun _ => 0))), (q24, .inl (cI, 12, .inl (fun _ => 0))), (q32, .inl (cI, 12, .inl (fun _ => 0))), (q40, .inl (cI, 12, .inl (fun _ => 0))), (q48, .inl (cI, 12, .inl (fun _ => 0)))]) hx hb hts hi_X6 tyX6 tyX6_ok nmX6 hown hK hP hD hS 0 rfl rfl 7 (by decide) (hts (.fieldLink RX6 25 "HeadBudgetsModel" "years" "[I") (by decide +kernel)) rfl hin rfl (by decide +kernel) rfl rfl (Nat.le_of_ble_eq_true rfl) rfl dX6_init_50 (fun H locs hP hD hS => ?_)
  refine lv_aload_n hx hb dX6_init_53 rfl (lv_at hl 0 rfl) ?_
  refine lv_bipush (v := 12) hx hb dX6_init_54 (by decide) ?_
  refine xnewa (N' := 12) hx hb (hts (.arrayClass .int) (by decide +kernel)) hK hP hD hS hA (by decide) (by decide) (by decide) (Nat.le_of_ble_eq_true rfl) (Nat.le_of_ble_eq_true rfl) dX6_init_56 (fun q56 H hP hD hS => ?_)
  have hP : va_P D vwCl [(h0, .inr (6, [.ref q8, .int 0, .int 0, .ref q16, .ref q24, .ref q32, .ref q40, .ref q48, .null, .null])), (q8, .inl (cI, 4498, .inl (fun _ => 0))), (q16, .inl (cI, 12, .inl (fun _ => 0))), (q24, .inl (cI, 12, .inl (fun _ => 0))), (q32, .inl (cI, 12, .inl (fun _ => 0))), (q40, .inl (cI, 12, .inl (fun _ => 0))), (q48, .inl (cI, 12, .inl (fun _ => 0))), (q56, .inl (cI, 12, .inl (fun _ => 0)))] H := hP
  have hD : va_D (Fr h0 s.heap.size) [(h0, .inr (6, [.ref q8, .int 0, .int 0, .ref q16, .ref q24, .ref q32, .ref q40, .ref q48, .null, .null])), (q8, .inl (cI, 4498, .inl (fun _ => 0))), (q16, .inl (cI, 12, .inl (fun _ => 0))), (q24, .inl (cI, 12, .inl (fun _ => 0))), (q32, .inl (cI, 12, .inl (fun _ => 0))), (q40, .inl (cI, 12, .inl (fun _ => 0))), (q48, .inl (cI, 12, .inl (fun _ => 0))), (q56, .inl (cI, 12, .inl (fun _ => 0)))] := hD
  refine xputF (C := RX6) (T := TX6) (N := 10) (ci := 6) (v := .ref q56) (ty := .array .int) (ws' := [(h0, .inr (6, [.ref q8, .int 0, .int 0, .ref q16, .ref q24, .ref q32, .ref q40, .ref q48, .ref q56, .null])), (q8, .inl (cI, 4498, .inl (fun _ => 0))), (q16, .inl (cI, 12, .inl (fun _ => 0))), (q24, .inl (cI, 12, .inl (fun _ => 0))), (q32, .inl (cI, 12, .inl (fun _ => 0))), (q40, .inl (cI, 12, .inl (fun _ => 0))), (q48, .inl (cI, 12, .inl (fun _ => 0))), (q56, .inl (cI, 12, .inl (fun _ => 0)))]) hx hb hts hi_X6 tyX6 tyX6_ok nmX6 hown hK hP hD hS 0 rfl rfl 8 (by decide) (hts (.fieldLink RX6 28 "HeadBudgetsModel" "revoked" "[I") (by decide +kernel)) rfl hin rfl (by decide +kernel) rfl rfl (Nat.le_of_ble_eq_true rfl) rfl dX6_init_58 (fun H locs hP hD hS => ?_)
  refine lv_aload_n hx hb dX6_init_61 rfl (lv_at hl 0 rfl) ?_
  refine lv_bipush (v := 12) hx hb dX6_init_62 (by decide) ?_
  refine xnewa (N' := 12) hx hb (hts (.arrayClass .int) (by decide +kernel)) hK hP hD hS hA (by decide) (by decide) (by decide) (Nat.le_of_ble_eq_true rfl) (Nat.le_of_ble_eq_true rfl) dX6_init_64 (fun q64 H hP hD hS => ?_)
  have hP : va_P D vwCl [(h0, .inr (6, [.ref q8, .int 0, .int 0, .ref q16, .ref q24, .ref q32, .ref q40, .ref q48, .ref q56, .null])), (q8, .inl (cI, 4498, .inl (fun _ => 0))), (q16, .inl (cI, 12, .inl (fun _ => 0))), (q24, .inl (cI, 12, .inl (fun _ => 0))), (q32, .inl (cI, 12, .inl (fun _ => 0))), (q40, .inl (cI, 12, .inl (fun _ => 0))), (q48, .inl (cI, 12, .inl (fun _ => 0))), (q56, .inl (cI, 12, .inl (fun _ => 0))), (q64, .inl (cI, 12, .inl (fun _ => 0)))] H := hP
  have hD : va_D (Fr h0 s.heap.size) [(h0, .inr (6, [.ref q8, .int 0, .int 0, .ref q16, .ref q24, .ref q32, .ref q40, .ref q48, .ref q56, .null])), (q8, .inl (cI, 4498, .inl (fun _ => 0))), (q16, .inl (cI, 12, .inl (fun _ => 0))), (q24, .inl (cI, 12, .inl (fun _ => 0))), (q32, .inl (cI, 12, .inl (fun _ => 0))), (q40, .inl (cI, 12, .inl (fun _ => 0))), (q48, .inl (cI, 12, .inl (fun _ => 0))), (q56, .inl (cI, 12, .inl (fun _ => 0))), (q64, .inl (cI, 12, .inl (fun _ => 0)))] := hD
  refine xputF (C := RX6) (T := TX6) (N := 10) (ci := 6) (v := .ref q64) (ty := .array .int) (ws' := [(h0, .inr (6, [.ref q8, .int 0, .int 0, .ref q16, .ref q24, .ref q32, .ref q40, .ref q48, .ref q56, .ref q64])), (q8, .inl (cI, 4498, .inl (fun _ => 0))), (q16, .inl (cI, 12, .inl (fun _ => 0))), (q24, .inl (cI, 12, .inl (fun _ => 0))), (q32, .inl (cI, 12, .inl (fun _ => 0))), (q40, .inl (cI, 12, .inl (fun _ => 0))), (q48, .inl (cI, 12, .inl (fun _ => 0))), (q56, .inl (cI, 12, .inl (fun _ => 0))), (q64, .inl (cI, 12, .inl (fun _ => 0)))]) hx hb hts hi_X6 tyX6 tyX6_ok nmX6 hown hK hP hD hS 0 rfl rfl 9 (by decide) (hts (.fieldLink RX6 31 "HeadBudgetsModel" "numbers" "[I") (by decide +kernel)) rfl hin rfl (by decide +kernel) rfl rfl (Nat.le_of_ble_eq_true rfl) rfl dX6_init_66 (fun H locs hP hD hS => ?_)
  obtain ⟨am, eam⟩ : ∃ am : Nat → Nat, am = (fun j => ([h0, q8, q16, q24, q32, q40, q48, q56, q64] : List Nat).getD j 0) := ⟨_, rfl⟩
  have hDm : va_D (Fr h0 s.heap.size) (mkW 9 am (EW cI)) := by rw [eam]; exact hD
  have e0 : am 0 = h0 := by rw [eam]; rfl
  have hdj : Dj 9 am := (mk_D hDm e0).2
  have hFr : ∀ j, j < 9 → Fr h0 s.heap.size (am j) := fun j hj => hDm.2 j _ (mkW_at hj)
  have hP : va_P D vwCl (wM cI am YZ) H := by unfold wM; rw [row_z, eam]; exact hP
  have hl : lv_has ls 1 [(0, .ref (am 0))] := by rw [e0]; exact hl
  clear hin
  have hh : hin 0 := ⟨by decide, by decide⟩
  have lk_7 := hts (.fieldLink RX6 7 "HeadBudgetsModel" "row" "[I") (by decide +kernel)
  refine lv_aload_n hx hb dX6_init_69 rfl (lv_at hl 0 rfl) ?_
  refine xget (C := RX6) (T := TX6) (N := 10) (ci := 6) (w := .ref (am 1)) hx hb hts hi_X6 hown hK hP 0 rfl rfl 0 (by decide) lk_7 rfl dX6_init_70 ?_
  refine lv_iconst (v := 1) hx hb dX6_init_73 (by decide) ?_
  refine lv_iconst (v := 1) hx hb dX6_init_74 (by decide) ?_
  refine xast hx hb hK hP (wM_Fr hdj hFr) hS 1 rfl (vp_in_lit (by decide)) (wM_sn (o := 1) (by decide)) dX6_init_75 (fun H locs hP hS => ?_)
  refine lv_aload_n hx hb dX6_init_76 rfl (lv_at hl 0 rfl) ?_
  refine xget (C := RX6) (T := TX6) (N := 10) (ci := 6) (w := .ref (am 1)) hx hb hts hi_X6 hown hK hP 0 rfl rfl 0 (by decide) lk_7 rfl dX6_init_77 ?_
  refine lv_iconst (v := 3) hx hb dX6_init_80 (by decide) ?_
  refine lv_bipush (v := 10) hx hb dX6_init_81 (by decide) ?_
  refine xast hx hb hK hP (wM_Fr hdj hFr) hS 1 rfl (vp_in_lit (by decide)) (wM_sn (o := 3) (by decide)) dX6_init_83 (fun H locs hP hS => ?_)
  refine lv_aload_n hx hb dX6_init_84 rfl (lv_at hl 0 rfl) ?_
  refine xget (C := RX6) (T := TX6) (N := 10) (ci := 6) (w := .ref (am 1)) hx hb hts hi_X6 hown hK hP 0 rfl rfl 0 (by decide) lk_7 rfl dX6_init_85 ?_
  refine lv_iconst (v := 0) hx hb dX6_init_88 (by decide) ?_
  refine lv_iconst (v := 0) hx hb dX6_init_89 (by decide) ?_
  refine callSE (As := [.int 0, .int 0]) (rest := [.ref (am 1)]) ⟨hx, hb, hml, hown, hts⟩ (c_X6_of 0 0) (va_cwS 2 hts gX6_init_X6_of rfl rfl rfl (by decide +kernel) ⟨Nat.le_of_ble_eq_true rfl, Nat.le_of_ble_eq_true rfl⟩) hK hN rfl hl.1 rfl (Nat.le_of_ble_eq_true rfl) dX6_init_90 ⟨Nat.le_of_ble_eq_true rfl, Nat.le_of_ble_eq_true rfl⟩ ?_
  refine lv_bipush (v := (-9)) hx hb dX6_init_93 (by decide) ?_
  refine xast hx hb hK hP (wM_Fr hdj hFr) hS 1 rfl (oH_in (n := 0) hh (by decide)) (wM_oH (n := 0) hh (by decide)) dX6_init_95 (fun H locs hP hS => ?_)
  refine lv_aload_n hx hb dX6_init_96 rfl (lv_at hl 0 rfl) ?_
  refine xget (C := RX6) (T := TX6) (N := 10) (ci := 6) (w := .ref (am 1)) hx hb hts hi_X6 hown hK hP 0 rfl rfl 0 (by decide) lk_7 rfl dX6_init_97 ?_
  refine lv_iconst (v := 0) hx hb dX6_init_100 (by decide) ?_
  refine lv_bipush (v := 8) hx hb dX6_init_101 (by decide) ?_
  refine callSE (As := [.int 0, .int 8]) (rest := [.ref (am 1)]) ⟨hx, hb, hml, hown, hts⟩ (c_X6_of 0 8) (va_cwS 2 hts gX6_init_X6_of rfl rfl rfl (by decide +kernel) ⟨Nat.le_of_ble_eq_true rfl, Nat.le_of_ble_eq_true rfl⟩) hK hN rfl hl.1 rfl (Nat.le_of_ble_eq_true rfl) dX6_init_103 ⟨Nat.le_of_ble_eq_true rfl, Nat.le_of_ble_eq_true rfl⟩ ?_
  refine lv_bipush (v := 50) hx hb dX6_init_106 (by decide) ?_
  refine xast hx hb hK hP (wM_Fr hdj hFr) hS 1 rfl (oH_in (n := 8) hh (by decide)) (wM_oH (n := 8) hh (by decide)) dX6_init_108 (fun H locs hP hS => ?_)
  refine W.widen (k := 8) (n := 4582) (Nat.le_of_ble_eq_true rfl) (Nat.le_of_ble_eq_true rfl) ?_
  exact retMkG (Wd := fun am => wM cI am Y0c) hx hb hr hlocks dX6_init_109 hP e0 hFr hdj hS
