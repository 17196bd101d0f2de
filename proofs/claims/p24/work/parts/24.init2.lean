def B00 : Bk := fun f i => if f = 14 ∧ i = 3 then 10 else 0
def EB (cI : ClassId) (a : Nat → Nat) (j : Nat) : va_E := bkE cI a 0 B00 j
def ED (cI : ClassId) (a : Nat → Nat) (j : Nat) : va_E := if j = 0 then .inr (2, [.ref (a 1), .int 0, .int 0, .int 0, .int 0, .int 0]) else EB cI (fun i => a (i + 1)) (j - 1)
set_option maxHeartbeats 4000000 in
set_option maxRecDepth 100000 in
theorem c_X0_init {l : Launch} {D : va_G} {cI cR : ClassId} : MkC l D cI cR 0 [.null, .null, .int 0, .int 0, .int 0, .int 0] 17 (EB cI) yX0_init wsX0_init ({ frames := 2, cells := 16, slots := 376, locals := 32 } : Room) 16 376 := by
  refine OfMk (cc := cX0_init) (maxL := 1) (by decide +kernel) rfl (Nat.le_of_ble_eq_true rfl) (fun h0 p e s m below meth c hx hb hr hts hown hlocks hml hnm hP hD hK hN hO ls hl => ?_)
  have hin : meth.name = "<init>" := hnm
  have hA : ∀ q, s.heap.size ≤ q → Fr h0 s.heap.size q := fun q h => Or.inr h
  have hS : va_S (Fr h0 s.heap.size) s.heap s.heap [] := va_S.rf
  have hi_X0 : ∀ w ∈ wsX00, w ∈ wsX0_init := by decide +kernel
  have hi_X3 : ∀ w ∈ wsX30, w ∈ wsX0_init := by decide +kernel
  have hi_X1 : ∀ w ∈ wsX10, w ∈ wsX0_init := by decide +kernel
  refine lv_aload_n hx hb dX0_init_0 rfl (lv_at hl 0 rfl) ?_
  refine W.objInit hx hb hown (hts (.methodLink RX0 3 objectInit) (by decide +kernel)) (hts (.instanceMethod objectInit) (by decide +kernel)) (hts (.code objectInit ⟨#[0xb1]⟩ 1 none) (List.mem_of_getElem? (i := 3) rfl)) rfl (by rw [hml]; exact hl.1) rfl dX0_init_1 (Nat.le_of_ble_eq_true rfl) (Nat.le_of_ble_eq_true rfl) ?_
  refine W.eq (g2 := F0 m 4 ls []) rfl ?_
  refine lv_aload_n hx hb dX0_init_4 rfl (lv_at hl 0 rfl) ?_
  refine va_new (ci := 3) (fs := [.null, .null, .null, .null, .null, .null, .null, .null, .null, .null, .int 0]) (C := RX3) (T := TX3) (N := 11) hx hb hts hi_X3 tyX3 tyX3_ok hown (hts (.classLink RX0 9 RX3) (by decide +kernel)) (hts (.instantiable RX3 11) (by decide +kernel)) (hts (.initialized RX3) (by decide +kernel)) hK hP hD hS hA rfl (fun j hj => by rcases (show j = 0 ∨ j = 1 ∨ j = 2 ∨ j = 3 ∨ j = 4 ∨ j = 5 ∨ j = 6 ∨ j = 7 ∨ j = 8 ∨ j = 9 ∨ j = 10 by omega) with rfl | rfl | rfl | rfl | rfl | rfl | rfl | rfl | rfl | rfl | rfl <;> rfl) (Nat.le_of_ble_eq_true rfl) (Nat.le_of_ble_eq_true rfl) dX0_init_5 (fun q5 H hP hD hS => ?_)
  refine lv_dup hx hb dX0_init_8 rfl ?_
  refine callMkN (ws := [(h0, .inr (0, [.null, .null, .int 0, .int 0, .int 0, .int 0]))]) (rest := [.ref q5, .ref h0]) (n := 11) (E := EH cI) ⟨hx, hb, hml, hown, hts⟩ c_X3_init ⟨va_cnB 0 hts gX0_init_X3_init_n11 rfl rfl rfl hN.2.1 (hts (.initialized RX3) (by decide +kernel)) (by decide +kernel) ⟨Nat.le_of_ble_eq_true rfl, Nat.le_of_ble_eq_true rfl⟩, rfl, hts (.instanceMethod yX3_init) (by decide +kernel)⟩ hK hN hO hP hD hS hA hl.1 (Nat.le_of_ble_eq_true rfl) dX0_init_9 ⟨Nat.le_of_ble_eq_true rfl, Nat.le_of_ble_eq_true rfl⟩ (fun f H locs hf_f hP1 hD1 hS => ?_)
  subst hf_f
  have hP := hP1
  have hD := hD1
  refine xputF (C := RX0) (T := TX0) (N := 6) (ci := 0) (v := .ref (f 0)) (ty := .object "HeadBudgets$Heads") (ws' := [(h0, .inr (0, [.ref (f 0), .null, .int 0, .int 0, .int 0, .int 0]))] ++ mkW 11 f (EH cI)) hx hb hts hi_X0 tyX0 tyX0_ok nmX0 hown hK hP hD hS 0 rfl rfl 0 (by decide) (hts (.fieldLink RX0 12 "HeadBudgets$Books" "heads" "LHeadBudgets$Heads;") (by decide +kernel)) rfl hin rfl (by decide +kernel) rfl rfl (Nat.le_of_ble_eq_true rfl) rfl dX0_init_12 (fun H locs hP hD hS => ?_)
  refine lv_aload_n hx hb dX0_init_15 rfl (lv_at hl 0 rfl) ?_
  refine va_new (ci := 1) (fs := [.null, .null, .null, .null, .int 0]) (C := RX1) (T := TX1) (N := 5) hx hb hts hi_X1 tyX1 tyX1_ok hown (hts (.classLink RX0 18 RX1) (by decide +kernel)) (hts (.instantiable RX1 5) (by decide +kernel)) (hts (.initialized RX1) (by decide +kernel)) hK hP hD hS hA rfl (fun j hj => by rcases (show j = 0 ∨ j = 1 ∨ j = 2 ∨ j = 3 ∨ j = 4 by omega) with rfl | rfl | rfl | rfl | rfl <;> rfl) (Nat.le_of_ble_eq_true rfl) (Nat.le_of_ble_eq_true rfl) dX0_init_16 (fun q16 H hP hD hS => ?_)
  refine lv_dup hx hb dX0_init_19 rfl ?_
  refine callMkN (ws := [(h0, .inr (0, [.ref (f 0), .null, .int 0, .int 0, .int 0, .int 0]))] ++ mkW 11 f (EH cI)) (rest := [.ref q16, .ref h0]) (n := 5) (E := EO cI) ⟨hx, hb, hml, hown, hts⟩ c_X1_init ⟨va_cnB 0 hts gX0_init_X1_init_n20 rfl rfl rfl hN.2.2.1 (hts (.initialized RX1) (by decide +kernel)) (by decide +kernel) ⟨Nat.le_of_ble_eq_true rfl, Nat.le_of_ble_eq_true rfl⟩, rfl, hts (.instanceMethod yX1_init) (by decide +kernel)⟩ hK hN hO hP hD hS hA hl.1 (Nat.le_of_ble_eq_true rfl) dX0_init_20 ⟨Nat.le_of_ble_eq_true rfl, Nat.le_of_ble_eq_true rfl⟩ (fun g H locs hf_g hP1 hD1 hS => ?_)
  subst hf_g
  have hP := hP1
  have hD := hD1
  refine xputF (C := RX0) (T := TX0) (N := 6) (ci := 0) (v := .ref (g 0)) (ty := .object "HeadBudgets$Commitments") (ws' := [(h0, .inr (0, [.ref (f 0), .ref (g 0), .int 0, .int 0, .int 0, .int 0]))] ++ mkW 11 f (EH cI) ++ mkW 5 g (EO cI)) hx hb hts hi_X0 tyX0 tyX0_ok nmX0 hown hK hP hD hS 0 rfl rfl 1 (by decide) (hts (.fieldLink RX0 21 "HeadBudgets$Books" "commitments" "LHeadBudgets$Commitments;") (by decide +kernel)) rfl hin rfl (by decide +kernel) rfl rfl (Nat.le_of_ble_eq_true rfl) rfl dX0_init_23 (fun H locs hP hD hS => ?_)
  refine lv_aload_n hx hb dX0_init_26 rfl (lv_at hl 0 rfl) ?_
  refine lv_bipush (v := 10) hx hb dX0_init_27 (by decide) ?_
  have hD2 : va_D (Fr h0 s.heap.size) ([(h0, .inr (0, [.ref (f 0), .ref (g 0), .int 0, .int 10, .int 0, .int 0]))] ++ mkW 11 f (EH cI) ++ mkW 5 g (EO cI)) := hD.set (p := 0) (e := .inr (0, [.ref (f 0), .ref (g 0), .int 0, .int 10, .int 0, .int 0])) rfl
  refine xput (C := RX0) (T := TX0) (N := 6) (ci := 0) (ws' := [(h0, .inr (0, [.ref (f 0), .ref (g 0), .int 0, .int 10, .int 0, .int 0]))] ++ mkW 11 f (EH cI) ++ mkW 5 g (EO cI)) hx hb hts hi_X0 tyX0 tyX0_ok nmX0 hown hK hP hD hS 0 rfl rfl 3 (by decide) (hts (.fieldLink RX0 25 "HeadBudgets$Books" "carriedPart" "I") (by decide +kernel)) rfl (by decide +kernel) (Nat.le_of_ble_eq_true rfl) rfl dX0_init_29 (fun H locs hP hS => ?_)
  refine W.widen (k := 16) (n := 376) (Nat.le_of_ble_eq_true rfl) (Nat.le_of_ble_eq_true rfl) ?_
  have hP : va_P D vwCl (mkW 17 (fun j => if j = 0 then h0 else if j < 12 then f (j - 1) else g (j - 12)) (EB cI)) H := hP
  have hD : va_D (Fr h0 s.heap.size) (mkW 17 (fun j => if j = 0 then h0 else if j < 12 then f (j - 1) else g (j - 12)) (EB cI)) := hD2
  exact retMk hx hb hr hlocks dX0_init_32 hP hD rfl hS
set_option maxHeartbeats 4000000 in
set_option maxRecDepth 100000 in
theorem c_X2_init {l : Launch} {D : va_G} {cI cR : ClassId} : MkC l D cI cR 2 [.null, .int 0, .int 0, .int 0, .int 0, .int 0] 18 (ED cI) yX2_init wsX2_init ({ frames := 3, cells := 17, slots := 382, locals := 52 } : Room) 17 382 := by
  refine OfMk (cc := cX2_init) (maxL := 1) (by decide +kernel) rfl (Nat.le_of_ble_eq_true rfl) (fun h0 p e s m below meth c hx hb hr hts hown hlocks hml hnm hP hD hK hN hO ls hl => ?_)
  have hin : meth.name = "<init>" := hnm
  have hA : ∀ q, s.heap.size ≤ q → Fr h0 s.heap.size q := fun q h => Or.inr h
  have hS : va_S (Fr h0 s.heap.size) s.heap s.heap [] := va_S.rf
  have hi_X2 : ∀ w ∈ wsX20, w ∈ wsX2_init := by decide +kernel
  have hi_X0 : ∀ w ∈ wsX00, w ∈ wsX2_init := by decide +kernel
  refine lv_aload_n hx hb dX2_init_0 rfl (lv_at hl 0 rfl) ?_
  refine W.objInit hx hb hown (hts (.methodLink RX2 1 objectInit) (by decide +kernel)) (hts (.instanceMethod objectInit) (by decide +kernel)) (hts (.code objectInit ⟨#[0xb1]⟩ 1 none) (List.mem_of_getElem? (i := 3) rfl)) rfl (by rw [hml]; exact hl.1) rfl dX2_init_1 (Nat.le_of_ble_eq_true rfl) (Nat.le_of_ble_eq_true rfl) ?_
  refine W.eq (g2 := F0 m 4 ls []) rfl ?_
  refine lv_aload_n hx hb dX2_init_4 rfl (lv_at hl 0 rfl) ?_
  refine va_new (ci := 0) (fs := [.null, .null, .int 0, .int 0, .int 0, .int 0]) (C := RX0) (T := TX0) (N := 6) hx hb hts hi_X0 tyX0 tyX0_ok hown (hts (.classLink RX2 7 RX0) (by decide +kernel)) (hts (.instantiable RX0 6) (by decide +kernel)) (hts (.initialized RX0) (by decide +kernel)) hK hP hD hS hA rfl (fun j hj => by rcases (show j = 0 ∨ j = 1 ∨ j = 2 ∨ j = 3 ∨ j = 4 ∨ j = 5 by omega) with rfl | rfl | rfl | rfl | rfl | rfl <;> rfl) (Nat.le_of_ble_eq_true rfl) (Nat.le_of_ble_eq_true rfl) dX2_init_5 (fun q5 H hP hD hS => ?_)
  refine lv_dup hx hb dX2_init_8 rfl ?_
  refine callMkN (ws := [(h0, .inr (2, [.null, .int 0, .int 0, .int 0, .int 0, .int 0]))]) (rest := [.ref q5, .ref h0]) (n := 17) (E := EB cI) ⟨hx, hb, hml, hown, hts⟩ c_X0_init ⟨va_cnB 0 hts gX2_init_X0_init_n9 rfl rfl rfl hN.2.2.2.2.1 (hts (.initialized RX0) (by decide +kernel)) (by decide +kernel) ⟨Nat.le_of_ble_eq_true rfl, Nat.le_of_ble_eq_true rfl⟩, rfl, hts (.instanceMethod yX0_init) (by decide +kernel)⟩ hK hN hO hP hD hS hA hl.1 (Nat.le_of_ble_eq_true rfl) dX2_init_9 ⟨Nat.le_of_ble_eq_true rfl, Nat.le_of_ble_eq_true rfl⟩ (fun f H locs hf_f hP1 hD1 hS => ?_)
  subst hf_f
  have hP := hP1
  have hD := hD1
  refine xputF (C := RX2) (T := TX2) (N := 6) (ci := 2) (v := .ref (f 0)) (ty := .object "HeadBudgets$Books") (ws' := [(h0, .inr (2, [.ref (f 0), .int 0, .int 0, .int 0, .int 0, .int 0]))] ++ mkW 17 f (EB cI)) hx hb hts hi_X2 tyX2 tyX2_ok nmX2 hown hK hP hD hS 0 rfl rfl 0 (by decide) (hts (.fieldLink RX2 10 "HeadBudgets$Deed" "before" "LHeadBudgets$Books;") (by decide +kernel)) rfl hin rfl (by decide +kernel) rfl rfl (Nat.le_of_ble_eq_true rfl) rfl dX2_init_12 (fun H locs hP hD hS => ?_)
  refine W.widen (k := 17) (n := 382) (Nat.le_of_ble_eq_true rfl) (Nat.le_of_ble_eq_true rfl) ?_
  have hP : va_P D vwCl (mkW 18 (fun j => if j = 0 then h0 else f (j - 1)) (ED cI)) H := hP
  have hD : va_D (Fr h0 s.heap.size) (mkW 18 (fun j => if j = 0 then h0 else f (j - 1)) (ED cI)) := hD
  exact retMk hx hb hr hlocks dX2_init_15 hP hD rfl hS
