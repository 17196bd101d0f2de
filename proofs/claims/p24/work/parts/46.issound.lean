/-! THE LAW's isSound -/
set_option maxHeartbeats 4000000 in
set_option maxRecDepth 100000 in
theorem c_L_isSound {l : Launch} {D : va_G} {cI cR : ClassId} {ad : Nat → Nat} (X : St) {K : Int} (g : Gd K (X 0)) (hB : K ≤ 10000000) : RoP l D cI cR (wC cI cR ad X) yL_isSound wsL_isSound ({ frames := 5, cells := 0, slots := 0, locals := 110 } : Room) [.ref (ad 233)] (fun r => r = 1) := by
  refine OfW (cc := cL_isSound) (maxL := 12) (ret := (some .boolean)) (by decide +kernel) rfl (Nat.le_of_ble_eq_true rfl) (fun p e s m below meth c hx hb hr hts hown hlocks hml hnm hP hK hN ls hl => ?_)
  have hl : lv_has ls 12 [(0, .ref (ad 233))] := hl
  have o := g.1
  refine lv_aload_n hx hb dL_isSound_0 rfl (lv_at hl 0 rfl) ?_
  refine lv_iconst (v := 1) hx hb dL_isSound_1 (by decide) ?_
  refine callE (As := [.int 1]) (rest := []) ⟨hx, hb, hml, hown, hts⟩ (c_X5_count X 1) (cwV 1 hts gL_isSound_X5_count rfl rfl rfl (by decide +kernel) ⟨Nat.le_of_ble_eq_true rfl, Nat.le_of_ble_eq_true rfl⟩) hK hN hP 233 g0_233 rfl rfl hl.1 rfl (Nat.le_of_ble_eq_true rfl) dL_isSound_2 ⟨Nat.zero_le _, Nat.zero_le _⟩ ?_
  refine lv_istore_n (lv' := [(1, .int (v_count (X 0) (X 14 0 1) 1)), (0, .ref (ad 233))]) hx hb dL_isSound_5 rfl hl (by decide) rfl (fun ls hl => ?_)
  refine lv_iconst (v := 0) hx hb dL_isSound_6 (by decide) ?_
  refine lv_istore_n (lv' := [(2, .int 0), (1, .int (v_count (X 0) (X 14 0 1) 1)), (0, .ref (ad 233))]) hx hb dL_isSound_7 rfl hl (by decide) rfl (fun ls hl => ?_)
  refine lv_iconst (v := 0) hx hb dL_isSound_8 (by decide) ?_
  refine lv_istore_n (lv' := [(3, .int 0), (2, .int 0), (1, .int (v_count (X 0) (X 14 0 1) 1)), (0, .ref (ad 233))]) hx hb dL_isSound_9 rfl hl (by decide) rfl (fun ls hl => ?_)
  refine lv_iconst (v := 0) hx hb dL_isSound_10 (by decide) ?_
  refine lv_istore (lv' := [(4, .int 0), (3, .int 0), (2, .int 0), (1, .int (v_count (X 0) (X 14 0 1) 1)), (0, .ref (ad 233))]) hx hb dL_isSound_11 hl (by decide) rfl (fun ls hl => ?_)
  refine lv_iconst (v := 0) hx hb dL_isSound_13 (by decide) ?_
  refine lv_istore (lv' := [(5, .int 0), (4, .int 0), (3, .int 0), (2, .int 0), (1, .int (v_count (X 0) (X 14 0 1) 1)), (0, .ref (ad 233))]) hx hb dL_isSound_14 hl (by decide) rfl (fun ls hl => ?_)
  have hloop_16 : ∀ (n_16 : Nat) (k : Nat) (x2 x3 xk : Int32), k ≤ md (X 0) → md (X 0) < k + n_16 → xk = nI k → x2 = sumI (fun i => v_head (X 0) (nI i) 4) k → x3 = sumI (fun i => v_head (X 0) (nI i) 5) k → ∀ ls : Array Slot, lv_has ls 12 [(0, .ref (ad 233)), (1, .int (v_count (X 0) (X 14 0 1) 1)), (2, .int x2), (3, .int x3), (4, .int 0), (5, .int xk)] → W p l e ({ frames := 5, cells := 0, slots := 0, locals := 110 } : Room) s m ([.ref (ad 233)]).toArray below meth c s.heap [] 0 0 (MQ below (vp_Si (fun r => r = 1)) ([.ref (ad 233)]).toArray s 0 0 (fun _ => False)) (F0 m 16 ls []) := by
    intro n_16
    induction n_16 with
    | zero =>
      intro k x2 x3 xk hk hn ek e2 e3 ls hl
      exfalso; omega
    | succ n_16 ih_16 =>
      intro k x2 x3 xk hk hn ek e2 e3 ls hl
      refine lv_iload hx hb dL_isSound_16 (lv_at hl 5 rfl) ?_
      refine lv_iload_n hx hb dL_isSound_18 rfl (lv_at hl 1 rfl) ?_
      refine lv_icmp_ge (tgt := 357) hx hb dL_isSound_19 (by decide) (fun c_19 => ?_) (fun c_19 => ?_)
      · have hk2 : k = md (X 0) := lp_he o ek hk c_19
        subst hk2
        refine lv_iconst (v := 0) hx hb dL_isSound_357 (by decide) ?_
        refine lv_istore (lv' := [(5, .int 0), (0, .ref (ad 233)), (1, .int (v_count (X 0) (X 14 0 1) 1)), (2, .int x2), (3, .int x3), (4, .int 0)]) hx hb dL_isSound_358 hl (by decide) rfl (fun ls hl => ?_)
        refine lv_iconst (v := 0) hx hb dL_isSound_360 (by decide) ?_
        refine lv_istore (lv' := [(6, .int 0), (5, .int 0), (0, .ref (ad 233)), (1, .int (v_count (X 0) (X 14 0 1) 1)), (2, .int x2), (3, .int x3), (4, .int 0)]) hx hb dL_isSound_361 hl (by decide) rfl (fun ls hl => ?_)
        have hloop_363 : ∀ (n_363 : Nat) (q : Nat) (x4 x5 xc : Int32), q ≤ mc (X 0) → mc (X 0) < q + n_363 → xc = nI q → x4 = sumI (fun i => ci (0 < v_comm (X 0) (nI i) 1) 1 0) q → x5 = sumI (fun i => v_comm (X 0) (nI i) 2) q → ∀ ls : Array Slot, lv_has ls 12 [(0, .ref (ad 233)), (1, .int (v_count (X 0) (X 14 0 1) 1)), (2, .int x2), (3, .int x3), (4, .int x4), (5, .int x5), (6, .int xc)] → W p l e ({ frames := 5, cells := 0, slots := 0, locals := 110 } : Room) s m ([.ref (ad 233)]).toArray below meth c s.heap [] 0 0 (MQ below (vp_Si (fun r => r = 1)) ([.ref (ad 233)]).toArray s 0 0 (fun _ => False)) (F0 m 363 ls []) := by
          intro n_363
          induction n_363 with
          | zero =>
            intro q x4 x5 xc hq hn eqq e4 e5 ls hl
            exfalso; omega
          | succ n_363 ih_363 =>
            intro q x4 x5 xc hq hn eqq e4 e5 ls hl
            refine lv_iload hx hb dL_isSound_363 (lv_at hl 6 rfl) ?_
            refine lv_aload_n hx hb dL_isSound_365 rfl (lv_at hl 0 rfl) ?_
            refine lv_iconst (v := 2) hx hb dL_isSound_366 (by decide) ?_
            refine callE (As := [.int 2]) (rest := [.int xc]) ⟨hx, hb, hml, hown, hts⟩ (c_X5_count X 2) (cwV 1 hts gL_isSound_X5_count rfl rfl rfl (by decide +kernel) ⟨Nat.le_of_ble_eq_true rfl, Nat.le_of_ble_eq_true rfl⟩) hK hN hP 233 g0_233 rfl rfl hl.1 rfl (Nat.le_of_ble_eq_true rfl) dL_isSound_367 ⟨Nat.zero_le _, Nat.zero_le _⟩ ?_
            refine lv_icmp_ge (tgt := 411) hx hb dL_isSound_370 (by decide) (fun c_370 => ?_) (fun c_370 => ?_)
            · have hq2 : q = mc (X 0) := lp_ce o eqq hq c_370
              subst hq2
              refine lv_aload_n hx hb dL_isSound_411 rfl (lv_at hl 0 rfl) ?_
              refine lv_iconst (v := 4) hx hb dL_isSound_412 (by decide) ?_
              refine callE (As := [.int 4]) (rest := []) ⟨hx, hb, hml, hown, hts⟩ (c_X5_count X 4) (cwV 1 hts gL_isSound_X5_count rfl rfl rfl (by decide +kernel) ⟨Nat.le_of_ble_eq_true rfl, Nat.le_of_ble_eq_true rfl⟩) hK hN hP 233 g0_233 rfl rfl hl.1 rfl (Nat.le_of_ble_eq_true rfl) dL_isSound_413 ⟨Nat.zero_le _, Nat.zero_le _⟩ ?_
              refine lv_iload_n hx hb dL_isSound_416 rfl (lv_at hl 2 rfl) ?_
              refine lv_icmp_ne (tgt := 479) hx hb dL_isSound_417 (by decide) (fun h9 => absurd ((sd_bar o).trans e2.symm) h9) (fun c_417 => ?_)
              refine lv_aload_n hx hb dL_isSound_420 rfl (lv_at hl 0 rfl) ?_
              refine lv_bipush (v := 6) hx hb dL_isSound_421 (by decide) ?_
              refine callE (As := [.int 6]) (rest := []) ⟨hx, hb, hml, hown, hts⟩ (c_X5_count X 6) (cwV 1 hts gL_isSound_X5_count rfl rfl rfl (by decide +kernel) ⟨Nat.le_of_ble_eq_true rfl, Nat.le_of_ble_eq_true rfl⟩) hK hN hP 233 g0_233 rfl rfl hl.1 rfl (Nat.le_of_ble_eq_true rfl) dL_isSound_423 ⟨Nat.zero_le _, Nat.zero_le _⟩ ?_
              refine lv_iload_n hx hb dL_isSound_426 rfl (lv_at hl 3 rfl) ?_
              refine lv_icmp_ne (tgt := 479) hx hb dL_isSound_427 (by decide) (fun h9 => absurd ((sd_all o).trans e3.symm) h9) (fun c_427 => ?_)
              refine lv_aload_n hx hb dL_isSound_430 rfl (lv_at hl 0 rfl) ?_
              refine lv_iconst (v := 3) hx hb dL_isSound_431 (by decide) ?_
              refine callE (As := [.int 3]) (rest := []) ⟨hx, hb, hml, hown, hts⟩ (c_X5_count X 3) (cwV 1 hts gL_isSound_X5_count rfl rfl rfl (by decide +kernel) ⟨Nat.le_of_ble_eq_true rfl, Nat.le_of_ble_eq_true rfl⟩) hK hN hP 233 g0_233 rfl rfl hl.1 rfl (Nat.le_of_ble_eq_true rfl) dL_isSound_432 ⟨Nat.zero_le _, Nat.zero_le _⟩ ?_
              refine lv_iload hx hb dL_isSound_435 (lv_at hl 4 rfl) ?_
              refine lv_icmp_ne (tgt := 479) hx hb dL_isSound_437 (by decide) (fun h9 => absurd ((sd_open o).trans e4.symm) h9) (fun c_437 => ?_)
              refine lv_aload_n hx hb dL_isSound_440 rfl (lv_at hl 0 rfl) ?_
              refine lv_bipush (v := 8) hx hb dL_isSound_441 (by decide) ?_
              refine callE (As := [.int 8]) (rest := []) ⟨hx, hb, hml, hown, hts⟩ (c_X5_count X 8) (cwV 1 hts gL_isSound_X5_count rfl rfl rfl (by decide +kernel) ⟨Nat.le_of_ble_eq_true rfl, Nat.le_of_ble_eq_true rfl⟩) hK hN hP 233 g0_233 rfl rfl hl.1 rfl (Nat.le_of_ble_eq_true rfl) dL_isSound_443 ⟨Nat.zero_le _, Nat.zero_le _⟩ ?_
              refine lv_iload hx hb dL_isSound_446 (lv_at hl 5 rfl) ?_
              refine lv_icmp_ne (tgt := 479) hx hb dL_isSound_448 (by decide) (fun h9 => absurd ((sd_paid g).trans e5.symm) h9) (fun c_448 => ?_)
              refine lv_aload_n hx hb dL_isSound_451 rfl (lv_at hl 0 rfl) ?_
              refine lv_iconst (v := 0) hx hb dL_isSound_452 (by decide) ?_
              refine lv_iconst (v := 4) hx hb dL_isSound_453 (by decide) ?_
              refine callE (As := [.int 0, .int 4]) (rest := []) ⟨hx, hb, hml, hown, hts⟩ (c_X5_total X 0 4) (cwV 2 hts gL_isSound_X5_total rfl rfl rfl (by decide +kernel) ⟨Nat.le_of_ble_eq_true rfl, Nat.le_of_ble_eq_true rfl⟩) hK hN hP 233 g0_233 rfl rfl hl.1 rfl (Nat.le_of_ble_eq_true rfl) dL_isSound_454 ⟨Nat.zero_le _, Nat.zero_le _⟩ ?_
              refine lv_iload_n hx hb dL_isSound_457 rfl (lv_at hl 1 rfl) ?_
              refine lv_icmp_ne (tgt := 479) hx hb dL_isSound_458 (by decide) (fun h9 => absurd (sd_n o) h9) (fun c_458 => ?_)
              refine lv_aload_n hx hb dL_isSound_461 rfl (lv_at hl 0 rfl) ?_
              refine lv_iconst (v := 0) hx hb dL_isSound_462 (by decide) ?_
              refine callE (As := [.int 0]) (rest := []) ⟨hx, hb, hml, hown, hts⟩ (c_X5_wouldLapse X 0) (cwV 1 hts gL_isSound_X5_wouldLapse rfl rfl rfl (by decide +kernel) ⟨Nat.le_of_ble_eq_true rfl, Nat.le_of_ble_eq_true rfl⟩) hK hN hP 233 g0_233 rfl rfl hl.1 rfl (Nat.le_of_ble_eq_true rfl) dL_isSound_463 ⟨Nat.zero_le _, Nat.zero_le _⟩ ?_
              refine lv_aload_n hx hb dL_isSound_466 rfl (lv_at hl 0 rfl) ?_
              refine lv_iconst (v := 0) hx hb dL_isSound_467 (by decide) ?_
              refine lv_iconst (v := 3) hx hb dL_isSound_468 (by decide) ?_
              refine callE (As := [.int 0, .int 3]) (rest := [.int (v_lapse (X 0) 0)]) ⟨hx, hb, hml, hown, hts⟩ (c_X5_total X 0 3) (cwV 2 hts gL_isSound_X5_total rfl rfl rfl (by decide +kernel) ⟨Nat.le_of_ble_eq_true rfl, Nat.le_of_ble_eq_true rfl⟩) hK hN hP 233 g0_233 rfl rfl hl.1 rfl (Nat.le_of_ble_eq_true rfl) dL_isSound_469 ⟨Nat.zero_le _, Nat.zero_le _⟩ ?_
              refine lv_icmp_gt (tgt := 479) hx hb dL_isSound_472 (by decide) (fun h9 => absurd h9 (sd_lapse o hB)) (fun c_472 => ?_)
              refine lv_iconst (v := 1) hx hb dL_isSound_475 (by decide) ?_
              refine lv_goto (tgt := 480) hx hb dL_isSound_476 (by decide) ?_
              exact retP1 hx hb hr hlocks dL_isSound_480 rfl
            · have hlq := lp_c o eqq hq c_370
              refine lv_iload hx hb dL_isSound_373 (lv_at hl 4 rfl) ?_
              refine lv_aload_n hx hb dL_isSound_375 rfl (lv_at hl 0 rfl) ?_
              refine lv_iload hx hb dL_isSound_376 (lv_at hl 6 rfl) ?_
              refine lv_iconst (v := 1) hx hb dL_isSound_378 (by decide) ?_
              refine callE (As := [.int xc, .int 1]) (rest := [.int x4]) ⟨hx, hb, hml, hown, hts⟩ (c_X5_commitment X xc 1) (cwV 2 hts gL_isSound_X5_commitment rfl rfl rfl (by decide +kernel) ⟨Nat.le_of_ble_eq_true rfl, Nat.le_of_ble_eq_true rfl⟩) hK hN hP 233 g0_233 rfl rfl hl.1 rfl (Nat.le_of_ble_eq_true rfl) dL_isSound_379 ⟨Nat.zero_le _, Nat.zero_le _⟩ ?_
              refine lv_if_le (tgt := 389) hx hb dL_isSound_382 (by decide) (fun c_382 => ?_) (fun c_382 => ?_)
              · refine lv_iconst (v := 0) hx hb dL_isSound_389 (by decide) ?_
                refine lv_iadd hx hb dL_isSound_390 ?_
                refine lv_istore (lv' := [(4, .int (x4 + 0)), (0, .ref (ad 233)), (1, .int (v_count (X 0) (X 14 0 1) 1)), (2, .int x2), (3, .int x3), (5, .int x5), (6, .int xc)]) hx hb dL_isSound_391 hl (by decide) rfl (fun ls hl => ?_)
                refine lv_iload hx hb dL_isSound_393 (lv_at hl 5 rfl) ?_
                refine lv_aload_n hx hb dL_isSound_395 rfl (lv_at hl 1 rfl) ?_
                refine lv_iload hx hb dL_isSound_396 (lv_at hl 6 rfl) ?_
                refine lv_iconst (v := 2) hx hb dL_isSound_398 (by decide) ?_
                refine callE (As := [.int xc, .int 2]) (rest := [.int x5]) ⟨hx, hb, hml, hown, hts⟩ (c_X5_commitment X xc 2) (cwV 2 hts gL_isSound_X5_commitment rfl rfl rfl (by decide +kernel) ⟨Nat.le_of_ble_eq_true rfl, Nat.le_of_ble_eq_true rfl⟩) hK hN hP 233 g0_233 rfl rfl hl.1 rfl (Nat.le_of_ble_eq_true rfl) dL_isSound_399 ⟨Nat.zero_le _, Nat.zero_le _⟩ ?_
                refine lv_iadd hx hb dL_isSound_402 ?_
                refine lv_istore (lv' := [(5, .int (x5 + (v_comm (X 0) xc 2))), (4, .int (x4 + 0)), (0, .ref (ad 233)), (1, .int (v_count (X 0) (X 14 0 1) 1)), (2, .int x2), (3, .int x3), (6, .int xc)]) hx hb dL_isSound_403 hl (by decide) rfl (fun ls hl => ?_)
                refine lv_iinc (v := xc + 1) (lv' := [(6, .int (xc + 1)), (5, .int (x5 + (v_comm (X 0) xc 2))), (4, .int (x4 + 0)), (0, .ref (ad 233)), (1, .int (v_count (X 0) (X 14 0 1) 1)), (2, .int x2), (3, .int x3)]) hx hb dL_isSound_405 hl (k := 6) rfl rfl (by decide) rfl (fun ls hl => ?_)
                refine lv_goto (tgt := 363) hx hb dL_isSound_408 (by decide) ?_
                exact ih_363  (q + 1) _ _ _ (by omega) (by omega) (by rw [eqq]; exact nI_1 q) (nz_f e4 (x := 1) (P := 0 < v_comm (X 0) (nI q) 1) (by rw [← eqq]; exact Int32.not_lt.mpr c_382) rfl) (nz_x e5 (by rw [eqq])) _ (lv_sub hl [3, 4, 5, 6, 2, 1, 0] rfl)
              · refine lv_iconst (v := 1) hx hb dL_isSound_385 (by decide) ?_
                refine lv_goto (tgt := 390) hx hb dL_isSound_386 (by decide) ?_
                refine lv_iadd hx hb dL_isSound_390 ?_
                refine lv_istore (lv' := [(4, .int (x4 + 1)), (0, .ref (ad 233)), (1, .int (v_count (X 0) (X 14 0 1) 1)), (2, .int x2), (3, .int x3), (5, .int x5), (6, .int xc)]) hx hb dL_isSound_391 hl (by decide) rfl (fun ls hl => ?_)
                refine lv_iload hx hb dL_isSound_393 (lv_at hl 5 rfl) ?_
                refine lv_aload_n hx hb dL_isSound_395 rfl (lv_at hl 1 rfl) ?_
                refine lv_iload hx hb dL_isSound_396 (lv_at hl 6 rfl) ?_
                refine lv_iconst (v := 2) hx hb dL_isSound_398 (by decide) ?_
                refine callE (As := [.int xc, .int 2]) (rest := [.int x5]) ⟨hx, hb, hml, hown, hts⟩ (c_X5_commitment X xc 2) (cwV 2 hts gL_isSound_X5_commitment rfl rfl rfl (by decide +kernel) ⟨Nat.le_of_ble_eq_true rfl, Nat.le_of_ble_eq_true rfl⟩) hK hN hP 233 g0_233 rfl rfl hl.1 rfl (Nat.le_of_ble_eq_true rfl) dL_isSound_399 ⟨Nat.zero_le _, Nat.zero_le _⟩ ?_
                refine lv_iadd hx hb dL_isSound_402 ?_
                refine lv_istore (lv' := [(5, .int (x5 + (v_comm (X 0) xc 2))), (4, .int (x4 + 1)), (0, .ref (ad 233)), (1, .int (v_count (X 0) (X 14 0 1) 1)), (2, .int x2), (3, .int x3), (6, .int xc)]) hx hb dL_isSound_403 hl (by decide) rfl (fun ls hl => ?_)
                refine lv_iinc (v := xc + 1) (lv' := [(6, .int (xc + 1)), (5, .int (x5 + (v_comm (X 0) xc 2))), (4, .int (x4 + 1)), (0, .ref (ad 233)), (1, .int (v_count (X 0) (X 14 0 1) 1)), (2, .int x2), (3, .int x3)]) hx hb dL_isSound_405 hl (k := 6) rfl rfl (by decide) rfl (fun ls hl => ?_)
                refine lv_goto (tgt := 363) hx hb dL_isSound_408 (by decide) ?_
                exact ih_363  (q + 1) _ _ _ (by omega) (by omega) (by rw [eqq]; exact nI_1 q) (nz_t e4 (P := 0 < v_comm (X 0) (nI q) 1) (by rw [← eqq]; exact Int32.not_le.mp c_382) rfl) (nz_x e5 (by rw [eqq])) _ (lv_sub hl [3, 4, 5, 6, 2, 1, 0] rfl)
        exact hloop_363  (mc (X 0) + 1) 0 0 0 0 (Nat.zero_le _) (by omega) rfl rfl rfl _ (lv_sub hl [2, 3, 4, 5, 6, 1, 0] rfl)
      · have hlt := lp_h o ek hk c_19
        refine lv_aload_n hx hb dL_isSound_22 rfl (lv_at hl 0 rfl) ?_
        refine lv_iload hx hb dL_isSound_23 (lv_at hl 5 rfl) ?_
        refine lv_iconst (v := 0) hx hb dL_isSound_25 (by decide) ?_
        refine callE (As := [.int xk, .int 0]) (rest := []) ⟨hx, hb, hml, hown, hts⟩ (c_X5_head X xk 0) (cwV 2 hts gL_isSound_X5_head rfl rfl rfl (by decide +kernel) ⟨Nat.le_of_ble_eq_true rfl, Nat.le_of_ble_eq_true rfl⟩) hK hN hP 233 g0_233 rfl rfl hl.1 rfl (Nat.le_of_ble_eq_true rfl) dL_isSound_26 ⟨Nat.zero_le _, Nat.zero_le _⟩ ?_
        refine lv_istore (lv' := [(6, .int (v_head (X 0) xk 0)), (0, .ref (ad 233)), (1, .int (v_count (X 0) (X 14 0 1) 1)), (2, .int x2), (3, .int x3), (4, .int 0), (5, .int xk)]) hx hb dL_isSound_29 hl (by decide) rfl (fun ls hl => ?_)
        have hj_51 : ∀ (x7 : Int32), x7 = v_head (X 0) xk 1 → ∀ ls : Array Slot, lv_has ls 12 [(0, .ref (ad 233)), (1, .int (v_count (X 0) (X 14 0 1) 1)), (2, .int x2), (3, .int x3), (4, .int 0), (5, .int xk), (6, .int (v_head (X 0) xk 0)), (7, .int x7)] → W p l e ({ frames := 5, cells := 0, slots := 0, locals := 110 } : Room) s m ([.ref (ad 233)]).toArray below meth c s.heap [] 0 0 (MQ below (vp_Si (fun r => r = 1)) ([.ref (ad 233)]).toArray s 0 0 (fun _ => False)) (F0 m 51 ls []) := by
          intro x7 e7 ls hl
          have hj_85 : ∀ (x8 : Int32), x8 = v_head (X 0) xk 4 → ∀ ls : Array Slot, lv_has ls 12 [(0, .ref (ad 233)), (1, .int (v_count (X 0) (X 14 0 1) 1)), (2, .int x2), (3, .int x3), (4, .int 0), (5, .int xk), (6, .int (v_head (X 0) xk 0)), (7, .int x7), (8, .int x8)] → W p l e ({ frames := 5, cells := 0, slots := 0, locals := 110 } : Room) s m ([.ref (ad 233)]).toArray below meth c s.heap [] 0 0 (MQ below (vp_Si (fun r => r = 1)) ([.ref (ad 233)]).toArray s 0 0 (fun _ => False)) (F0 m 85 ls []) := by
            intro x8 e8 ls hl
            refine lv_aload_n hx hb dL_isSound_85 rfl (lv_at hl 0 rfl) ?_
            refine lv_iload hx hb dL_isSound_86 (lv_at hl 5 rfl) ?_
            refine lv_bipush (v := 8) hx hb dL_isSound_88 (by decide) ?_
            refine callE (As := [.int xk, .int 8]) (rest := []) ⟨hx, hb, hml, hown, hts⟩ (c_X5_head X xk 8) (cwV 2 hts gL_isSound_X5_head rfl rfl rfl (by decide +kernel) ⟨Nat.le_of_ble_eq_true rfl, Nat.le_of_ble_eq_true rfl⟩) hK hN hP 233 g0_233 rfl rfl hl.1 rfl (Nat.le_of_ble_eq_true rfl) dL_isSound_90 ⟨Nat.zero_le _, Nat.zero_le _⟩ ?_
            refine lv_aload_n hx hb dL_isSound_93 rfl (lv_at hl 0 rfl) ?_
            refine lv_iload hx hb dL_isSound_94 (lv_at hl 5 rfl) ?_
            refine lv_iconst (v := 5) hx hb dL_isSound_96 (by decide) ?_
            refine callE (As := [.int xk, .int 5]) (rest := [.int (v_head (X 0) xk 8)]) ⟨hx, hb, hml, hown, hts⟩ (c_X5_head X xk 5) (cwV 2 hts gL_isSound_X5_head rfl rfl rfl (by decide +kernel) ⟨Nat.le_of_ble_eq_true rfl, Nat.le_of_ble_eq_true rfl⟩) hK hN hP 233 g0_233 rfl rfl hl.1 rfl (Nat.le_of_ble_eq_true rfl) dL_isSound_97 ⟨Nat.zero_le _, Nat.zero_le _⟩ ?_
            refine lv_aload_n hx hb dL_isSound_100 rfl (lv_at hl 0 rfl) ?_
            refine lv_iload hx hb dL_isSound_101 (lv_at hl 5 rfl) ?_
            refine lv_bipush (v := 6) hx hb dL_isSound_103 (by decide) ?_
            refine callE (As := [.int xk, .int 6]) (rest := [.int (v_head (X 0) xk 5), .int (v_head (X 0) xk 8)]) ⟨hx, hb, hml, hown, hts⟩ (c_X5_head X xk 6) (cwV 2 hts gL_isSound_X5_head rfl rfl rfl (by decide +kernel) ⟨Nat.le_of_ble_eq_true rfl, Nat.le_of_ble_eq_true rfl⟩) hK hN hP 233 g0_233 rfl rfl hl.1 rfl (Nat.le_of_ble_eq_true rfl) dL_isSound_105 ⟨Nat.zero_le _, Nat.zero_le _⟩ ?_
            refine lv_isub hx hb dL_isSound_108 ?_
            refine lv_aload_n hx hb dL_isSound_109 rfl (lv_at hl 0 rfl) ?_
            refine lv_iload hx hb dL_isSound_110 (lv_at hl 5 rfl) ?_
            refine lv_bipush (v := 7) hx hb dL_isSound_112 (by decide) ?_
            refine callE (As := [.int xk, .int 7]) (rest := [.int ((v_head (X 0) xk 5) - (v_head (X 0) xk 6)), .int (v_head (X 0) xk 8)]) ⟨hx, hb, hml, hown, hts⟩ (c_X5_head X xk 7) (cwV 2 hts gL_isSound_X5_head rfl rfl rfl (by decide +kernel) ⟨Nat.le_of_ble_eq_true rfl, Nat.le_of_ble_eq_true rfl⟩) hK hN hP 233 g0_233 rfl rfl hl.1 rfl (Nat.le_of_ble_eq_true rfl) dL_isSound_114 ⟨Nat.zero_le _, Nat.zero_le _⟩ ?_
            refine lv_isub hx hb dL_isSound_117 ?_
            refine lv_icmp_ne (tgt := 169) hx hb dL_isSound_118 (by decide) (fun h9 => absurd (sd_f o hlt.1 ek) h9) (fun c_118 => ?_)
            refine lv_aload_n hx hb dL_isSound_121 rfl (lv_at hl 0 rfl) ?_
            refine lv_iload hx hb dL_isSound_122 (lv_at hl 5 rfl) ?_
            refine lv_bipush (v := 8) hx hb dL_isSound_124 (by decide) ?_
            refine callE (As := [.int xk, .int 8]) (rest := []) ⟨hx, hb, hml, hown, hts⟩ (c_X5_head X xk 8) (cwV 2 hts gL_isSound_X5_head rfl rfl rfl (by decide +kernel) ⟨Nat.le_of_ble_eq_true rfl, Nat.le_of_ble_eq_true rfl⟩) hK hN hP 233 g0_233 rfl rfl hl.1 rfl (Nat.le_of_ble_eq_true rfl) dL_isSound_126 ⟨Nat.zero_le _, Nat.zero_le _⟩ ?_
            refine lv_if_lt (tgt := 169) hx hb dL_isSound_129 (by decide) (fun h9 => absurd h9 (sd_nn o hlt.1 ek)) (fun c_129 => ?_)
            refine lv_aload_n hx hb dL_isSound_132 rfl (lv_at hl 0 rfl) ?_
            refine lv_iload hx hb dL_isSound_133 (lv_at hl 5 rfl) ?_
            refine lv_iconst (v := 1) hx hb dL_isSound_135 (by decide) ?_
            refine callE (As := [.int xk, .int 1]) (rest := []) ⟨hx, hb, hml, hown, hts⟩ (c_X5_head X xk 1) (cwV 2 hts gL_isSound_X5_head rfl rfl rfl (by decide +kernel) ⟨Nat.le_of_ble_eq_true rfl, Nat.le_of_ble_eq_true rfl⟩) hK hN hP 233 g0_233 rfl rfl hl.1 rfl (Nat.le_of_ble_eq_true rfl) dL_isSound_136 ⟨Nat.zero_le _, Nat.zero_le _⟩ ?_
            refine lv_iload hx hb dL_isSound_139 (lv_at hl 7 rfl) ?_
            refine lv_icmp_ne (tgt := 169) hx hb dL_isSound_141 (by decide) (fun h9 => absurd e7.symm h9) (fun c_141 => ?_)
            refine lv_iload hx hb dL_isSound_144 (lv_at hl 7 rfl) ?_
            refine lv_iconst (v := 4) hx hb dL_isSound_146 (by decide) ?_
            refine lv_icmp_gt (tgt := 169) hx hb dL_isSound_147 (by decide) (fun h9 => absurd h9 (by rw [e7]; exact sd_d4 o hlt.1 ek)) (fun c_147 => ?_)
            refine lv_aload_n hx hb dL_isSound_150 rfl (lv_at hl 0 rfl) ?_
            refine lv_iload hx hb dL_isSound_151 (lv_at hl 5 rfl) ?_
            refine lv_iconst (v := 4) hx hb dL_isSound_153 (by decide) ?_
            refine callE (As := [.int xk, .int 4]) (rest := []) ⟨hx, hb, hml, hown, hts⟩ (c_X5_head X xk 4) (cwV 2 hts gL_isSound_X5_head rfl rfl rfl (by decide +kernel) ⟨Nat.le_of_ble_eq_true rfl, Nat.le_of_ble_eq_true rfl⟩) hK hN hP 233 g0_233 rfl rfl hl.1 rfl (Nat.le_of_ble_eq_true rfl) dL_isSound_154 ⟨Nat.zero_le _, Nat.zero_le _⟩ ?_
            refine lv_iload hx hb dL_isSound_157 (lv_at hl 8 rfl) ?_
            refine lv_icmp_ne (tgt := 169) hx hb dL_isSound_159 (by decide) (fun h9 => absurd e8.symm h9) (fun c_159 => ?_)
            refine lv_iload hx hb dL_isSound_162 (lv_at hl 6 rfl) ?_
            refine lv_iload hx hb dL_isSound_164 (lv_at hl 5 rfl) ?_
            refine lv_icmp_lt (tgt := 171) hx hb dL_isSound_166 (by decide) (fun c_166 => ?_) (fun h9 => absurd (sd_lt o hlt.1 ek) h9)
            refine lv_iconst (v := 0) hx hb dL_isSound_171 (by decide) ?_
            refine lv_istore (lv' := [(9, .int 0), (0, .ref (ad 233)), (1, .int (v_count (X 0) (X 14 0 1) 1)), (2, .int x2), (3, .int x3), (4, .int 0), (5, .int xk), (6, .int (v_head (X 0) xk 0)), (7, .int x7), (8, .int x8)]) hx hb dL_isSound_172 hl (by decide) rfl (fun ls hl => ?_)
            have hloop_174 : ∀ (n_174 : Nat) (w : Nat) (xw : Int32), w ≤ 4 → 4 < w + n_174 → xw = nI w → ∀ ls : Array Slot, lv_has ls 12 [(0, .ref (ad 233)), (1, .int (v_count (X 0) (X 14 0 1) 1)), (2, .int x2), (3, .int x3), (4, .int 0), (5, .int xk), (6, .int (v_head (X 0) xk 0)), (7, .int x7), (8, .int x8), (9, .int xw)] → W p l e ({ frames := 5, cells := 0, slots := 0, locals := 110 } : Room) s m ([.ref (ad 233)]).toArray below meth c s.heap [] 0 0 (MQ below (vp_Si (fun r => r = 1)) ([.ref (ad 233)]).toArray s 0 0 (fun _ => False)) (F0 m 174 ls []) := by
              intro n_174
              induction n_174 with
              | zero =>
                intro w xw hw hn ew ls hl
                exfalso; omega
              | succ n_174 ih_174 =>
                intro w xw hw hn ew ls hl
                refine lv_iload hx hb dL_isSound_174 (lv_at hl 9 rfl) ?_
                refine lv_iconst (v := 4) hx hb dL_isSound_176 (by decide) ?_
                refine lv_icmp_ge (tgt := 271) hx hb dL_isSound_177 (by decide) (fun c_177 => ?_) (fun c_177 => ?_)
                · refine lv_iconst (v := 0) hx hb dL_isSound_271 (by decide) ?_
                  refine lv_istore (lv' := [(9, .int 0), (0, .ref (ad 233)), (1, .int (v_count (X 0) (X 14 0 1) 1)), (2, .int x2), (3, .int x3), (4, .int 0), (5, .int xk), (6, .int (v_head (X 0) xk 0)), (7, .int x7), (8, .int x8)]) hx hb dL_isSound_272 hl (by decide) rfl (fun ls hl => ?_)
                  refine lv_iconst (v := 0) hx hb dL_isSound_274 (by decide) ?_
                  refine lv_istore (lv' := [(10, .int 0), (9, .int 0), (0, .ref (ad 233)), (1, .int (v_count (X 0) (X 14 0 1) 1)), (2, .int x2), (3, .int x3), (4, .int 0), (5, .int xk), (6, .int (v_head (X 0) xk 0)), (7, .int x7), (8, .int x8)]) hx hb dL_isSound_275 hl (by decide) rfl (fun ls hl => ?_)
                  have hloop_277 : ∀ (n_277 : Nat) (q : Nat) (xa xc : Int32), q ≤ mc (X 0) → mc (X 0) < q + n_277 → xc = nI q → xa = s_cmm (X 0) xk q → ∀ ls : Array Slot, lv_has ls 12 [(0, .ref (ad 233)), (1, .int (v_count (X 0) (X 14 0 1) 1)), (2, .int x2), (3, .int x3), (4, .int 0), (5, .int xk), (6, .int (v_head (X 0) xk 0)), (7, .int x7), (8, .int x8), (9, .int xa), (10, .int xc)] → W p l e ({ frames := 5, cells := 0, slots := 0, locals := 110 } : Room) s m ([.ref (ad 233)]).toArray below meth c s.heap [] 0 0 (MQ below (vp_Si (fun r => r = 1)) ([.ref (ad 233)]).toArray s 0 0 (fun _ => False)) (F0 m 277 ls []) := by
                    intro n_277
                    induction n_277 with
                    | zero =>
                      intro q xa xc hq hn eqq ea ls hl
                      exfalso; omega
                    | succ n_277 ih_277 =>
                      intro q xa xc hq hn eqq ea ls hl
                      refine lv_iload hx hb dL_isSound_277 (lv_at hl 10 rfl) ?_
                      refine lv_aload_n hx hb dL_isSound_279 rfl (lv_at hl 0 rfl) ?_
                      refine lv_iconst (v := 2) hx hb dL_isSound_280 (by decide) ?_
                      refine callE (As := [.int 2]) (rest := [.int xc]) ⟨hx, hb, hml, hown, hts⟩ (c_X5_count X 2) (cwV 1 hts gL_isSound_X5_count rfl rfl rfl (by decide +kernel) ⟨Nat.le_of_ble_eq_true rfl, Nat.le_of_ble_eq_true rfl⟩) hK hN hP 233 g0_233 rfl rfl hl.1 rfl (Nat.le_of_ble_eq_true rfl) dL_isSound_281 ⟨Nat.zero_le _, Nat.zero_le _⟩ ?_
                      refine lv_icmp_ge (tgt := 321) hx hb dL_isSound_284 (by decide) (fun c_284 => ?_) (fun c_284 => ?_)
                      · have hq2 : q = mc (X 0) := lp_ce o eqq hq c_284
                        subst hq2
                        refine lv_iload hx hb dL_isSound_321 (lv_at hl 9 rfl) ?_
                        refine lv_aload_n hx hb dL_isSound_323 rfl (lv_at hl 0 rfl) ?_
                        refine lv_iload hx hb dL_isSound_324 (lv_at hl 5 rfl) ?_
                        refine lv_bipush (v := 6) hx hb dL_isSound_326 (by decide) ?_
                        refine callE (As := [.int xk, .int 6]) (rest := [.int xa]) ⟨hx, hb, hml, hown, hts⟩ (c_X5_head X xk 6) (cwV 2 hts gL_isSound_X5_head rfl rfl rfl (by decide +kernel) ⟨Nat.le_of_ble_eq_true rfl, Nat.le_of_ble_eq_true rfl⟩) hK hN hP 233 g0_233 rfl rfl hl.1 rfl (Nat.le_of_ble_eq_true rfl) dL_isSound_328 ⟨Nat.zero_le _, Nat.zero_le _⟩ ?_
                        refine lv_icmp_eq (tgt := 336) hx hb dL_isSound_331 (by decide) (fun c_331 => ?_) (fun h9 => absurd (ea.trans (sd_com g hlt.1 ek)) h9)
                        refine lv_iload_n hx hb dL_isSound_336 rfl (lv_at hl 2 rfl) ?_
                        refine lv_iload hx hb dL_isSound_337 (lv_at hl 8 rfl) ?_
                        refine lv_iadd hx hb dL_isSound_339 ?_
                        refine lv_istore_n (lv' := [(2, .int (x2 + x8)), (0, .ref (ad 233)), (1, .int (v_count (X 0) (X 14 0 1) 1)), (3, .int x3), (4, .int 0), (5, .int xk), (6, .int (v_head (X 0) xk 0)), (7, .int x7), (8, .int x8), (9, .int xa), (10, .int xc)]) hx hb dL_isSound_340 rfl hl (by decide) rfl (fun ls hl => ?_)
                        refine lv_iload_n hx hb dL_isSound_341 rfl (lv_at hl 3 rfl) ?_
                        refine lv_aload_n hx hb dL_isSound_342 rfl (lv_at hl 1 rfl) ?_
                        refine lv_iload hx hb dL_isSound_343 (lv_at hl 5 rfl) ?_
                        refine lv_iconst (v := 5) hx hb dL_isSound_345 (by decide) ?_
                        refine callE (As := [.int xk, .int 5]) (rest := [.int x3]) ⟨hx, hb, hml, hown, hts⟩ (c_X5_head X xk 5) (cwV 2 hts gL_isSound_X5_head rfl rfl rfl (by decide +kernel) ⟨Nat.le_of_ble_eq_true rfl, Nat.le_of_ble_eq_true rfl⟩) hK hN hP 233 g0_233 rfl rfl hl.1 rfl (Nat.le_of_ble_eq_true rfl) dL_isSound_346 ⟨Nat.zero_le _, Nat.zero_le _⟩ ?_
                        refine lv_iadd hx hb dL_isSound_349 ?_
                        refine lv_istore_n (lv' := [(3, .int (x3 + (v_head (X 0) xk 5))), (2, .int (x2 + x8)), (0, .ref (ad 233)), (1, .int (v_count (X 0) (X 14 0 1) 1)), (4, .int 0), (5, .int xk), (6, .int (v_head (X 0) xk 0)), (7, .int x7), (8, .int x8), (9, .int xa), (10, .int xc)]) hx hb dL_isSound_350 rfl hl (by decide) rfl (fun ls hl => ?_)
                        refine lv_iinc (v := xk + 1) (lv' := [(5, .int (xk + 1)), (3, .int (x3 + (v_head (X 0) xk 5))), (2, .int (x2 + x8)), (0, .ref (ad 233)), (1, .int (v_count (X 0) (X 14 0 1) 1)), (4, .int 0), (6, .int (v_head (X 0) xk 0)), (7, .int x7), (8, .int x8), (9, .int xa), (10, .int xc)]) hx hb dL_isSound_351 hl (k := 5) rfl rfl (by decide) rfl (fun ls hl => ?_)
                        refine lv_goto (tgt := 16) hx hb dL_isSound_354 (by decide) ?_
                        exact ih_16  (k + 1) _ _ _ (by omega) (by omega) (by rw [ek]; exact nI_1 k) (nz_x e2 (by rw [e8, ek])) (nz_x e3 (by rw [ek])) _ (lv_sub hl [3, 4, 2, 1, 5, 0] rfl)
                      · have hlq := lp_c o eqq hq c_284
                        refine lv_iload hx hb dL_isSound_287 (lv_at hl 9 rfl) ?_
                        refine lv_aload_n hx hb dL_isSound_289 rfl (lv_at hl 0 rfl) ?_
                        refine lv_iload hx hb dL_isSound_290 (lv_at hl 10 rfl) ?_
                        refine lv_iconst (v := 0) hx hb dL_isSound_292 (by decide) ?_
                        refine callE (As := [.int xc, .int 0]) (rest := [.int xa]) ⟨hx, hb, hml, hown, hts⟩ (c_X5_commitment X xc 0) (cwV 2 hts gL_isSound_X5_commitment rfl rfl rfl (by decide +kernel) ⟨Nat.le_of_ble_eq_true rfl, Nat.le_of_ble_eq_true rfl⟩) hK hN hP 233 g0_233 rfl rfl hl.1 rfl (Nat.le_of_ble_eq_true rfl) dL_isSound_293 ⟨Nat.zero_le _, Nat.zero_le _⟩ ?_
                        refine lv_iload hx hb dL_isSound_296 (lv_at hl 5 rfl) ?_
                        refine lv_icmp_ne (tgt := 311) hx hb dL_isSound_298 (by decide) (fun c_298 => ?_) (fun c_298 => ?_)
                        · refine lv_iconst (v := 0) hx hb dL_isSound_311 (by decide) ?_
                          refine lv_iadd hx hb dL_isSound_312 ?_
                          refine lv_istore (lv' := [(9, .int (xa + 0)), (0, .ref (ad 233)), (1, .int (v_count (X 0) (X 14 0 1) 1)), (2, .int x2), (3, .int x3), (4, .int 0), (5, .int xk), (6, .int (v_head (X 0) xk 0)), (7, .int x7), (8, .int x8), (10, .int xc)]) hx hb dL_isSound_313 hl (by decide) rfl (fun ls hl => ?_)
                          refine lv_iinc (v := xc + 1) (lv' := [(10, .int (xc + 1)), (9, .int (xa + 0)), (0, .ref (ad 233)), (1, .int (v_count (X 0) (X 14 0 1) 1)), (2, .int x2), (3, .int x3), (4, .int 0), (5, .int xk), (6, .int (v_head (X 0) xk 0)), (7, .int x7), (8, .int x8)]) hx hb dL_isSound_315 hl (k := 10) rfl rfl (by decide) rfl (fun ls hl => ?_)
                          refine lv_goto (tgt := 277) hx hb dL_isSound_318 (by decide) ?_
                          exact ih_277  (q + 1) _ _ (by omega) (by omega) (by rw [eqq]; exact nI_1 q) (sd_c2 eqq ea c_298) _ (lv_sub hl [2, 3, 4, 5, 6, 7, 8, 9, 10, 1, 0] rfl)
                        · refine lv_aload_n hx hb dL_isSound_301 rfl (lv_at hl 0 rfl) ?_
                          refine lv_iload hx hb dL_isSound_302 (lv_at hl 10 rfl) ?_
                          refine lv_iconst (v := 1) hx hb dL_isSound_304 (by decide) ?_
                          refine callE (As := [.int xc, .int 1]) (rest := [.int xa]) ⟨hx, hb, hml, hown, hts⟩ (c_X5_commitment X xc 1) (cwV 2 hts gL_isSound_X5_commitment rfl rfl rfl (by decide +kernel) ⟨Nat.le_of_ble_eq_true rfl, Nat.le_of_ble_eq_true rfl⟩) hK hN hP 233 g0_233 rfl rfl hl.1 rfl (Nat.le_of_ble_eq_true rfl) dL_isSound_305 ⟨Nat.zero_le _, Nat.zero_le _⟩ ?_
                          refine lv_goto (tgt := 312) hx hb dL_isSound_308 (by decide) ?_
                          refine lv_iadd hx hb dL_isSound_312 ?_
                          refine lv_istore (lv' := [(9, .int (xa + (v_comm (X 0) xc 1))), (0, .ref (ad 233)), (1, .int (v_count (X 0) (X 14 0 1) 1)), (2, .int x2), (3, .int x3), (4, .int 0), (5, .int xk), (6, .int (v_head (X 0) xk 0)), (7, .int x7), (8, .int x8), (10, .int xc)]) hx hb dL_isSound_313 hl (by decide) rfl (fun ls hl => ?_)
                          refine lv_iinc (v := xc + 1) (lv' := [(10, .int (xc + 1)), (9, .int (xa + (v_comm (X 0) xc 1))), (0, .ref (ad 233)), (1, .int (v_count (X 0) (X 14 0 1) 1)), (2, .int x2), (3, .int x3), (4, .int 0), (5, .int xk), (6, .int (v_head (X 0) xk 0)), (7, .int x7), (8, .int x8)]) hx hb dL_isSound_315 hl (k := 10) rfl rfl (by decide) rfl (fun ls hl => ?_)
                          refine lv_goto (tgt := 277) hx hb dL_isSound_318 (by decide) ?_
                          exact ih_277  (q + 1) _ _ (by omega) (by omega) (by rw [eqq]; exact nI_1 q) (sd_c1 eqq ea c_298) _ (lv_sub hl [2, 3, 4, 5, 6, 7, 8, 9, 10, 1, 0] rfl)
                  exact hloop_277  (mc (X 0) + 1) 0 0 0 (Nat.zero_le _) (by omega) rfl sd_c0 _ (lv_sub hl [2, 3, 4, 5, 6, 7, 8, 9, 10, 1, 0] rfl)
                · have hw4 : w < 4 := lp_4 ew hw c_177
                  have hj_203 : ∀ (x10 : Int32), x10 = p_smd (X 0) xk xw → ∀ ls : Array Slot, lv_has ls 12 [(0, .ref (ad 233)), (1, .int (v_count (X 0) (X 14 0 1) 1)), (2, .int x2), (3, .int x3), (4, .int 0), (5, .int xk), (6, .int (v_head (X 0) xk 0)), (7, .int x7), (8, .int x8), (9, .int xw), (10, .int x10)] → W p l e ({ frames := 5, cells := 0, slots := 0, locals := 110 } : Room) s m ([.ref (ad 233)]).toArray below meth c s.heap [] 0 0 (MQ below (vp_Si (fun r => r = 1)) ([.ref (ad 233)]).toArray s 0 0 (fun _ => False)) (F0 m 203 ls []) := by
                    intro x10 e10 ls hl
                    refine lv_iload hx hb dL_isSound_203 (lv_at hl 5 rfl) ?_
                    refine lv_iconst (v := 1) hx hb dL_isSound_205 (by decide) ?_
                    refine lv_iadd hx hb dL_isSound_206 ?_
                    refine lv_istore (lv' := [(11, .int (xk + 1)), (0, .ref (ad 233)), (1, .int (v_count (X 0) (X 14 0 1) 1)), (2, .int x2), (3, .int x3), (4, .int 0), (5, .int xk), (6, .int (v_head (X 0) xk 0)), (7, .int x7), (8, .int x8), (9, .int xw), (10, .int x10)]) hx hb dL_isSound_207 hl (by decide) rfl (fun ls hl => ?_)
                    have hloop_209 : ∀ (n_209 : Nat) (j : Nat) (xa xj : Int32), j ≤ md (X 0) → k < j → md (X 0) < j + n_209 → xj = nI j → xa = p_smd (X 0) xk xw + s_kid (X 0) k xk xw j → ∀ ls : Array Slot, lv_has ls 12 [(0, .ref (ad 233)), (1, .int (v_count (X 0) (X 14 0 1) 1)), (2, .int x2), (3, .int x3), (4, .int 0), (5, .int xk), (6, .int (v_head (X 0) xk 0)), (7, .int x7), (8, .int x8), (9, .int xw), (10, .int xa), (11, .int xj)] → W p l e ({ frames := 5, cells := 0, slots := 0, locals := 110 } : Room) s m ([.ref (ad 233)]).toArray below meth c s.heap [] 0 0 (MQ below (vp_Si (fun r => r = 1)) ([.ref (ad 233)]).toArray s 0 0 (fun _ => False)) (F0 m 209 ls []) := by
                      intro n_209
                      induction n_209 with
                      | zero =>
                        intro j xa xj hj hkj hn ej ea ls hl
                        exfalso; omega
                      | succ n_209 ih_209 =>
                        intro j xa xj hj hkj hn ej ea ls hl
                        refine lv_iload hx hb dL_isSound_209 (lv_at hl 11 rfl) ?_
                        refine lv_iload_n hx hb dL_isSound_211 rfl (lv_at hl 1 rfl) ?_
                        refine lv_icmp_ge (tgt := 250) hx hb dL_isSound_212 (by decide) (fun c_212 => ?_) (fun c_212 => ?_)
                        · have hj2 : j = md (X 0) := lp_he o ej hj c_212
                          subst hj2
                          refine lv_aload_n hx hb dL_isSound_250 rfl (lv_at hl 0 rfl) ?_
                          refine lv_iload hx hb dL_isSound_251 (lv_at hl 5 rfl) ?_
                          refine lv_iload hx hb dL_isSound_253 (lv_at hl 9 rfl) ?_
                          refine callE (As := [.int xk, .int xw]) (rest := []) ⟨hx, hb, hml, hown, hts⟩ (c_X5_total X xk xw) (cwV 2 hts gL_isSound_X5_total rfl rfl rfl (by decide +kernel) ⟨Nat.le_of_ble_eq_true rfl, Nat.le_of_ble_eq_true rfl⟩) hK hN hP 233 g0_233 rfl rfl hl.1 rfl (Nat.le_of_ble_eq_true rfl) dL_isSound_255 ⟨Nat.zero_le _, Nat.zero_le _⟩ ?_
                          refine lv_iload hx hb dL_isSound_258 (lv_at hl 10 rfl) ?_
                          refine lv_icmp_eq (tgt := 265) hx hb dL_isSound_260 (by decide) (fun c_260 => ?_) (fun h9 => absurd ((sd_tot o hlt.1 ek ew hw4).trans ea.symm) h9)
                          refine lv_iinc (v := xw + 1) (lv' := [(9, .int (xw + 1)), (0, .ref (ad 233)), (1, .int (v_count (X 0) (X 14 0 1) 1)), (2, .int x2), (3, .int x3), (4, .int 0), (5, .int xk), (6, .int (v_head (X 0) xk 0)), (7, .int x7), (8, .int x8), (10, .int xa), (11, .int xj)]) hx hb dL_isSound_265 hl (k := 9) rfl rfl (by decide) rfl (fun ls hl => ?_)
                          refine lv_goto (tgt := 174) hx hb dL_isSound_268 (by decide) ?_
                          exact ih_174  (w + 1) _ (by omega) (by omega) (by rw [ew]; exact nI_1 w) _ (lv_sub hl [1, 2, 3, 4, 5, 6, 7, 8, 9, 0] rfl)
                        · have hlj := lp_h o ej hj c_212
                          refine lv_iload hx hb dL_isSound_215 (lv_at hl 10 rfl) ?_
                          refine lv_aload_n hx hb dL_isSound_217 rfl (lv_at hl 0 rfl) ?_
                          refine lv_iload hx hb dL_isSound_218 (lv_at hl 11 rfl) ?_
                          refine lv_iconst (v := 0) hx hb dL_isSound_220 (by decide) ?_
                          refine callE (As := [.int xj, .int 0]) (rest := [.int xa]) ⟨hx, hb, hml, hown, hts⟩ (c_X5_head X xj 0) (cwV 2 hts gL_isSound_X5_head rfl rfl rfl (by decide +kernel) ⟨Nat.le_of_ble_eq_true rfl, Nat.le_of_ble_eq_true rfl⟩) hK hN hP 233 g0_233 rfl rfl hl.1 rfl (Nat.le_of_ble_eq_true rfl) dL_isSound_221 ⟨Nat.zero_le _, Nat.zero_le _⟩ ?_
                          refine lv_iload hx hb dL_isSound_224 (lv_at hl 5 rfl) ?_
                          refine lv_icmp_ne (tgt := 240) hx hb dL_isSound_226 (by decide) (fun c_226 => ?_) (fun c_226 => ?_)
                          · refine lv_iconst (v := 0) hx hb dL_isSound_240 (by decide) ?_
                            refine lv_iadd hx hb dL_isSound_241 ?_
                            refine lv_istore (lv' := [(10, .int (xa + 0)), (0, .ref (ad 233)), (1, .int (v_count (X 0) (X 14 0 1) 1)), (2, .int x2), (3, .int x3), (4, .int 0), (5, .int xk), (6, .int (v_head (X 0) xk 0)), (7, .int x7), (8, .int x8), (9, .int xw), (11, .int xj)]) hx hb dL_isSound_242 hl (by decide) rfl (fun ls hl => ?_)
                            refine lv_iinc (v := xj + 1) (lv' := [(11, .int (xj + 1)), (10, .int (xa + 0)), (0, .ref (ad 233)), (1, .int (v_count (X 0) (X 14 0 1) 1)), (2, .int x2), (3, .int x3), (4, .int 0), (5, .int xk), (6, .int (v_head (X 0) xk 0)), (7, .int x7), (8, .int x8), (9, .int xw)]) hx hb dL_isSound_244 hl (k := 11) rfl rfl (by decide) rfl (fun ls hl => ?_)
                            refine lv_goto (tgt := 209) hx hb dL_isSound_247 (by decide) ?_
                            exact ih_209  (j + 1) _ _ (by omega) (by omega) (by omega) (by rw [ej]; exact nI_1 j) (sd_k2 ej ea c_226) _ (lv_sub hl [2, 3, 4, 5, 6, 7, 8, 9, 10, 11, 1, 0] rfl)
                          · refine lv_aload_n hx hb dL_isSound_229 rfl (lv_at hl 0 rfl) ?_
                            refine lv_iload hx hb dL_isSound_230 (lv_at hl 11 rfl) ?_
                            refine lv_iload hx hb dL_isSound_232 (lv_at hl 9 rfl) ?_
                            refine callE (As := [.int xj, .int xw]) (rest := [.int xa]) ⟨hx, hb, hml, hown, hts⟩ (c_X5_total X xj xw) (cwV 2 hts gL_isSound_X5_total rfl rfl rfl (by decide +kernel) ⟨Nat.le_of_ble_eq_true rfl, Nat.le_of_ble_eq_true rfl⟩) hK hN hP 233 g0_233 rfl rfl hl.1 rfl (Nat.le_of_ble_eq_true rfl) dL_isSound_234 ⟨Nat.zero_le _, Nat.zero_le _⟩ ?_
                            refine lv_goto (tgt := 241) hx hb dL_isSound_237 (by decide) ?_
                            refine lv_iadd hx hb dL_isSound_241 ?_
                            refine lv_istore (lv' := [(10, .int (xa + (v_total (X 0) xj xw))), (0, .ref (ad 233)), (1, .int (v_count (X 0) (X 14 0 1) 1)), (2, .int x2), (3, .int x3), (4, .int 0), (5, .int xk), (6, .int (v_head (X 0) xk 0)), (7, .int x7), (8, .int x8), (9, .int xw), (11, .int xj)]) hx hb dL_isSound_242 hl (by decide) rfl (fun ls hl => ?_)
                            refine lv_iinc (v := xj + 1) (lv' := [(11, .int (xj + 1)), (10, .int (xa + (v_total (X 0) xj xw))), (0, .ref (ad 233)), (1, .int (v_count (X 0) (X 14 0 1) 1)), (2, .int x2), (3, .int x3), (4, .int 0), (5, .int xk), (6, .int (v_head (X 0) xk 0)), (7, .int x7), (8, .int x8), (9, .int xw)]) hx hb dL_isSound_244 hl (k := 11) rfl rfl (by decide) rfl (fun ls hl => ?_)
                            refine lv_goto (tgt := 209) hx hb dL_isSound_247 (by decide) ?_
                            exact ih_209  (j + 1) _ _ (by omega) (by omega) (by omega) (by rw [ej]; exact nI_1 j) (sd_k1 ej hkj ea c_226) _ (lv_sub hl [2, 3, 4, 5, 6, 7, 8, 9, 10, 11, 1, 0] rfl)
                    exact hloop_209  (md (X 0) + 1) (k + 1) _ _ (by omega) (Nat.lt_succ_self k) (by omega) (by rw [ek]; exact nI_1 k) (e10.trans sd_k0) _ (lv_sub hl [1, 2, 3, 4, 5, 6, 7, 8, 9, 10, 11, 0] rfl)
                  refine lv_aload_n hx hb dL_isSound_180 rfl (lv_at hl 0 rfl) ?_
                  refine lv_iload hx hb dL_isSound_181 (lv_at hl 5 rfl) ?_
                  refine lv_iload hx hb dL_isSound_183 (lv_at hl 9 rfl) ?_
                  refine lv_iconst (v := 3) hx hb dL_isSound_185 (by decide) ?_
                  refine lv_icmp_ge (tgt := 196) hx hb dL_isSound_186 (by decide) (fun c_186 => ?_) (fun c_186 => ?_)
                  · refine lv_bipush (v := 8) hx hb dL_isSound_196 (by decide) ?_
                    refine callE (As := [.int xk, .int 8]) (rest := []) ⟨hx, hb, hml, hown, hts⟩ (c_X5_head X xk 8) (cwV 2 hts gL_isSound_X5_head rfl rfl rfl (by decide +kernel) ⟨Nat.le_of_ble_eq_true rfl, Nat.le_of_ble_eq_true rfl⟩) hK hN hP 233 g0_233 rfl rfl hl.1 rfl (Nat.le_of_ble_eq_true rfl) dL_isSound_198 ⟨Nat.zero_le _, Nat.zero_le _⟩ ?_
                    refine lv_istore (lv' := [(10, .int (v_head (X 0) xk 8)), (0, .ref (ad 233)), (1, .int (v_count (X 0) (X 14 0 1) 1)), (2, .int x2), (3, .int x3), (4, .int 0), (5, .int xk), (6, .int (v_head (X 0) xk 0)), (7, .int x7), (8, .int x8), (9, .int xw)]) hx hb dL_isSound_201 hl (by decide) rfl (fun ls hl => ?_)
                    exact hj_203 _ (sd_s2 o hlt.1 ek ew hw4 c_186) _ (lv_sub hl [1, 2, 3, 4, 5, 6, 7, 8, 9, 10, 0] rfl)
                  · refine lv_iconst (v := 5) hx hb dL_isSound_189 (by decide) ?_
                    refine lv_iload hx hb dL_isSound_190 (lv_at hl 9 rfl) ?_
                    refine lv_iadd hx hb dL_isSound_192 ?_
                    refine lv_goto (tgt := 198) hx hb dL_isSound_193 (by decide) ?_
                    refine callE (As := [.int xk, .int (5 + xw)]) (rest := []) ⟨hx, hb, hml, hown, hts⟩ (c_X5_head X xk (5 + xw)) (cwV 2 hts gL_isSound_X5_head rfl rfl rfl (by decide +kernel) ⟨Nat.le_of_ble_eq_true rfl, Nat.le_of_ble_eq_true rfl⟩) hK hN hP 233 g0_233 rfl rfl hl.1 rfl (Nat.le_of_ble_eq_true rfl) dL_isSound_198 ⟨Nat.zero_le _, Nat.zero_le _⟩ ?_
                    refine lv_istore (lv' := [(10, .int (v_head (X 0) xk (5 + xw))), (0, .ref (ad 233)), (1, .int (v_count (X 0) (X 14 0 1) 1)), (2, .int x2), (3, .int x3), (4, .int 0), (5, .int xk), (6, .int (v_head (X 0) xk 0)), (7, .int x7), (8, .int x8), (9, .int xw)]) hx hb dL_isSound_201 hl (by decide) rfl (fun ls hl => ?_)
                    exact hj_203 _ (sd_s1 o hlt.1 ek ew hw4 c_186) _ (lv_sub hl [1, 2, 3, 4, 5, 6, 7, 8, 9, 10, 0] rfl)
            exact hloop_174  5 0 0 (by omega) (by omega) rfl _ (lv_sub hl [1, 2, 3, 4, 5, 6, 7, 8, 9, 0] rfl)
          refine lv_aload_n hx hb dL_isSound_51 rfl (lv_at hl 0 rfl) ?_
          refine lv_iload hx hb dL_isSound_52 (lv_at hl 5 rfl) ?_
          refine lv_iconst (v := 3) hx hb dL_isSound_54 (by decide) ?_
          refine callE (As := [.int xk, .int 3]) (rest := []) ⟨hx, hb, hml, hown, hts⟩ (c_X5_head X xk 3) (cwV 2 hts gL_isSound_X5_head rfl rfl rfl (by decide +kernel) ⟨Nat.le_of_ble_eq_true rfl, Nat.le_of_ble_eq_true rfl⟩) hK hN hP 233 g0_233 rfl rfl hl.1 rfl (Nat.le_of_ble_eq_true rfl) dL_isSound_55 ⟨Nat.zero_le _, Nat.zero_le _⟩ ?_
          refine lv_iconst (v := 1) hx hb dL_isSound_58 (by decide) ?_
          refine lv_icmp_eq (tgt := 78) hx hb dL_isSound_59 (by decide) (fun c_59 => ?_) (fun c_59 => ?_)
          · refine lv_iconst (v := 1) hx hb dL_isSound_78 (by decide) ?_
            refine lv_goto (tgt := 83) hx hb dL_isSound_79 (by decide) ?_
            refine lv_istore (lv' := [(8, .int 1), (0, .ref (ad 233)), (1, .int (v_count (X 0) (X 14 0 1) 1)), (2, .int x2), (3, .int x3), (4, .int 0), (5, .int xk), (6, .int (v_head (X 0) xk 0)), (7, .int x7)]) hx hb dL_isSound_83 hl (by decide) rfl (fun ls hl => ?_)
            exact hj_85 _ (sd_b1 o hlt.1 ek c_59) _ (lv_sub hl [1, 2, 3, 4, 5, 6, 7, 8, 0] rfl)
          · refine lv_iload hx hb dL_isSound_62 (lv_at hl 6 rfl) ?_
            refine lv_if_lt (tgt := 82) hx hb dL_isSound_64 (by decide) (fun c_64 => ?_) (fun c_64 => ?_)
            · refine lv_iconst (v := 0) hx hb dL_isSound_82 (by decide) ?_
              refine lv_istore (lv' := [(8, .int 0), (0, .ref (ad 233)), (1, .int (v_count (X 0) (X 14 0 1) 1)), (2, .int x2), (3, .int x3), (4, .int 0), (5, .int xk), (6, .int (v_head (X 0) xk 0)), (7, .int x7)]) hx hb dL_isSound_83 hl (by decide) rfl (fun ls hl => ?_)
              exact hj_85 _ (sd_b2 o hlt.1 ek c_59 c_64) _ (lv_sub hl [1, 2, 3, 4, 5, 6, 7, 8, 0] rfl)
            · refine lv_aload_n hx hb dL_isSound_67 rfl (lv_at hl 0 rfl) ?_
              refine lv_iload hx hb dL_isSound_68 (lv_at hl 6 rfl) ?_
              refine lv_iconst (v := 4) hx hb dL_isSound_70 (by decide) ?_
              refine callE (As := [.int (v_head (X 0) xk 0), .int 4]) (rest := []) ⟨hx, hb, hml, hown, hts⟩ (c_X5_head X (v_head (X 0) xk 0) 4) (cwV 2 hts gL_isSound_X5_head rfl rfl rfl (by decide +kernel) ⟨Nat.le_of_ble_eq_true rfl, Nat.le_of_ble_eq_true rfl⟩) hK hN hP 233 g0_233 rfl rfl hl.1 rfl (Nat.le_of_ble_eq_true rfl) dL_isSound_71 ⟨Nat.zero_le _, Nat.zero_le _⟩ ?_
              refine lv_iconst (v := 1) hx hb dL_isSound_74 (by decide) ?_
              refine lv_icmp_ne (tgt := 82) hx hb dL_isSound_75 (by decide) (fun c_75 => ?_) (fun c_75 => ?_)
              · refine lv_iconst (v := 0) hx hb dL_isSound_82 (by decide) ?_
                refine lv_istore (lv' := [(8, .int 0), (0, .ref (ad 233)), (1, .int (v_count (X 0) (X 14 0 1) 1)), (2, .int x2), (3, .int x3), (4, .int 0), (5, .int xk), (6, .int (v_head (X 0) xk 0)), (7, .int x7)]) hx hb dL_isSound_83 hl (by decide) rfl (fun ls hl => ?_)
                exact hj_85 _ (sd_b3 o hlt.1 ek c_59 c_64 c_75) _ (lv_sub hl [1, 2, 3, 4, 5, 6, 7, 8, 0] rfl)
              · refine lv_iconst (v := 1) hx hb dL_isSound_78 (by decide) ?_
                refine lv_goto (tgt := 83) hx hb dL_isSound_79 (by decide) ?_
                refine lv_istore (lv' := [(8, .int 1), (0, .ref (ad 233)), (1, .int (v_count (X 0) (X 14 0 1) 1)), (2, .int x2), (3, .int x3), (4, .int 0), (5, .int xk), (6, .int (v_head (X 0) xk 0)), (7, .int x7)]) hx hb dL_isSound_83 hl (by decide) rfl (fun ls hl => ?_)
                exact hj_85 _ (sd_b4 o hlt.1 ek c_75) _ (lv_sub hl [1, 2, 3, 4, 5, 6, 7, 8, 0] rfl)
        refine lv_iload hx hb dL_isSound_31 (lv_at hl 0 rfl) ?_
        refine lv_if_ge (tgt := 40) hx hb dL_isSound_33 (by decide) (fun c_33 => ?_) (fun c_33 => ?_)
        · refine lv_aload_n hx hb dL_isSound_40 rfl (lv_at hl 1 rfl) ?_
          refine lv_iload hx hb dL_isSound_41 (lv_at hl 0 rfl) ?_
          refine lv_iconst (v := 1) hx hb dL_isSound_43 (by decide) ?_
          refine callE (As := [.int (v_head (X 0) xk 0), .int 1]) (rest := []) ⟨hx, hb, hml, hown, hts⟩ (c_X5_head X (v_head (X 0) xk 0) 1) (cwV 2 hts gL_isSound_X5_head rfl rfl rfl (by decide +kernel) ⟨Nat.le_of_ble_eq_true rfl, Nat.le_of_ble_eq_true rfl⟩) hK hN hP 233 g0_233 rfl rfl hl.1 rfl (Nat.le_of_ble_eq_true rfl) dL_isSound_44 ⟨Nat.zero_le _, Nat.zero_le _⟩ ?_
          refine lv_iconst (v := 1) hx hb dL_isSound_47 (by decide) ?_
          refine lv_iadd hx hb dL_isSound_48 ?_
          refine lv_istore (lv' := [(7, .int ((v_head (X 0) (v_head (X 0) xk 0) 1) + 1)), (6, .int (v_head (X 0) xk 0)), (0, .ref (ad 233)), (1, .int (v_count (X 0) (X 14 0 1) 1)), (2, .int x2), (3, .int x3), (4, .int 0), (5, .int xk)]) hx hb dL_isSound_49 hl (by decide) rfl (fun ls hl => ?_)
          exact hj_51 _ (sd_d1 o hlt.1 ek c_33) _ (lv_sub hl [2, 3, 4, 5, 6, 7, 1, 0] rfl)
        · refine lv_iconst (v := 0) hx hb dL_isSound_36 (by decide) ?_
          refine lv_goto (tgt := 49) hx hb dL_isSound_37 (by decide) ?_
          refine lv_istore (lv' := [(7, .int 0), (6, .int (v_head (X 0) xk 0)), (0, .ref (ad 233)), (1, .int (v_count (X 0) (X 14 0 1) 1)), (2, .int x2), (3, .int x3), (4, .int 0), (5, .int xk)]) hx hb dL_isSound_49 hl (by decide) rfl (fun ls hl => ?_)
          exact hj_51 _ (sd_d0 o hlt.1 ek c_33) _ (lv_sub hl [2, 3, 4, 5, 6, 7, 1, 0] rfl)
  exact hloop_16  (md (X 0) + 1) 0 0 0 0 (Nat.zero_le _) (by omega) rfl rfl rfl _ (lv_sub hl [5, 4, 3, 2, 1, 0] rfl)
