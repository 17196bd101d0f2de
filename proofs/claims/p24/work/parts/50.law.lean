/-! THE LAW: from the object made to the end -/
set_option maxHeartbeats 8000000 in
set_option maxRecDepth 100000 in
/-- from the object made to the end -/
theorem law_body {p : Program} {l : Launch} {e : Env} {s : State} {m : MethodId} {below : List Frame} {meth : Method} {c : Code} {b L : Nat} {xs : Nat → Int32} {D : va_G} {cI cR : ClassId} {ad : Nat → Nat} (hL : L ≤ 260) (C0 : lw_At p s m meth c b L xs) (hK : va_K D vwCl (tysC cI cR) s) (hN : Nst s) (hdj : Dj 236 ad) (hFC : ∀ k, k < 236 → Nw s.heap.size (ad k)) {H : Heap} {locs : List Loc} (hP : va_P D vwCl (wC cI cR ad X0c) H) (hS : va_S (Nw s.heap.size) s.heap H locs) (ls : Array Slot) (hl : lv_has ls 8 [(1, .ref (ad 233)), (0, .ref b)]) : W p l e room_1 s m #[Value.ref b] below meth c H locs 600000 7302250 (lw_Z below #[Value.ref b] s) (F0 m 8 ls []) := by
  obtain ⟨hx, hb, hr, hml, hown, hts0, hX, hbl, hlocks, hgv⟩ := C0
  have hb : c.code = cL_law := hb
  have hown : s.vm.findClass RL = some m.cls := hown
  have hts : ∀ w ∈ wsL_law, w.before #[Value.ref b] s = true := fun w h => hts0 w (wsL_law_in w h)
  have hbA : ¬ Nw s.heap.size b := Nat.not_le.mpr hbl
  have hAC : ∀ q, Aw 236 ad q → Nw s.heap.size q := fun q h => h.elim (fun k z => by rw [z.2]; exact hFC k z.1)
  refine lv_aload_n hx hb dL_law_8 rfl (lv_at hl 1 rfl) ?_
  refine lv_iconst (v := 0) hx hb dL_law_9 (by decide) ?_
  refine callX (As := [.ref b, .int 0]) (rest := []) ⟨hx, hb, hml, hown, hts⟩ (c_L_cell (by decide) hL) (va_cwS 2 hts gL_law_L_cell rfl rfl rfl (by decide +kernel) ⟨Nat.le_of_ble_eq_true rfl, Nat.le_of_ble_eq_true rfl⟩) (hX.kept (hS.2.1 b hbl hbA)) (Nat.lt_of_lt_of_le hbl hS.1) rfl hl.1 rfl (Nat.le_of_ble_eq_true rfl) dL_law_10 ⟨Nat.le_of_ble_eq_true rfl, Nat.le_of_ble_eq_true rfl⟩ (fun y_10 _ => ?_)
  refine lv_istore_n (lv' := [(2, .int y_10), (1, .ref (ad 233)), (0, .ref b)]) hx hb dL_law_13 rfl hl (by decide) rfl (fun ls hl => ?_)
  refine lv_iconst (v := 0) hx hb dL_law_14 (by decide) ?_
  refine lv_istore_n (lv' := [(3, .int 0), (2, .int y_10), (1, .ref (ad 233)), (0, .ref b)]) hx hb dL_law_15 rfl hl (by decide) rfl (fun ls hl => ?_)
  have hloop_16 : ∀ (n_16 : Nat) (k : Nat) (xk : Int32) (XL_16 : St) (H : Heap) (locs : List Loc), va_P D vwCl (wC cI cR ad XL_16) H → va_S (Nw s.heap.size) s.heap H locs → k ≤ 3 → 3 < k + n_16 → xk = nI k → GX (200000 * (k : Int)) XL_16 → ∀ ls : Array Slot, lv_has ls 8 [(0, .ref b), (1, .ref (ad 233)), (2, .int y_10), (3, .int xk)] → W p l e room_1 s m #[Value.ref b] below meth c H locs 600000 7302250 (lw_Z below #[Value.ref b] s) (F0 m 16 ls []) := by
    intro n_16
    induction n_16 with
    | zero =>
      intro k xk XL_16 H locs hP hS hk hn ek hv ls hl
      exfalso; omega
    | succ n_16 ih_16 =>
      intro k xk XL_16 H locs hP hS hk hn ek hv ls hl
      refine lv_iload_n hx hb dL_law_16 rfl (lv_at hl 3 rfl) ?_
      refine lv_iconst (v := 3) hx hb dL_law_17 (by decide) ?_
      refine lv_icmp_ge (tgt := 77) hx hb dL_law_18 (by decide) (fun c_18 => ?_) (fun c_18 => ?_)
      · have v3 : GX 600000 XL_16 := hv.mono (by omega) (by omega)
        refine lv_iconst (v := 0) hx hb dL_law_77 (by decide) ?_
        refine lv_istore_n (lv' := [(3, .int 0), (0, .ref b), (1, .ref (ad 233)), (2, .int y_10)]) hx hb dL_law_78 rfl hl (by decide) rfl (fun ls hl => ?_)
        have hloop_79 : ∀ (n_79 : Nat) (t : Nat) (xt : Int32) (XL_79 : St) (H : Heap) (locs : List Loc), va_P D vwCl (wC cI cR ad XL_79) H → va_S (Nw s.heap.size) s.heap H locs → t ≤ 24 → 24 < t + n_79 → xt = nI t → GX (600000 + 300000 * (t : Int)) XL_79 → ∀ ls : Array Slot, lv_has ls 8 [(0, .ref b), (1, .ref (ad 233)), (3, .int xt)] → W p l e room_1 s m #[Value.ref b] below meth c H locs 600000 7302250 (lw_Z below #[Value.ref b] s) (F0 m 79 ls []) := by
          intro n_79
          induction n_79 with
          | zero =>
            intro t xt XL_79 H locs hP hS ht hn et hv ls hl
            exfalso; omega
          | succ n_79 ih_79 =>
            intro t xt XL_79 H locs hP hS ht hn et hv ls hl
            refine lv_iload_n hx hb dL_law_79 rfl (lv_at hl 2 rfl) ?_
            refine lv_bipush (v := 24) hx hb dL_law_80 (by decide) ?_
            refine lv_icmp_ge (tgt := 215) hx hb dL_law_82 (by decide) (fun c_82 => ?_) (fun c_82 => ?_)
            · obtain ⟨N, hg0⟩ := hv.mono (K' := 7800000) (by omega) (by omega)
              have hNN := hg0.held.2
              have e9 : v_count (XL_79 0) (XL_79 14 0 1) 9 = nI N := vc_9.trans hg0.held.1
              refine lv_aload_n hx hb dL_law_215 rfl (lv_at hl 1 rfl) ?_
              refine lv_bipush (v := 9) hx hb dL_law_216 (by decide) ?_
              refine callE (As := [.int 9]) (rest := []) ⟨hx, hb, hml, hown, hts⟩ (c_X5_count XL_79 9) (cwV 1 hts gL_law_X5_count rfl rfl rfl (by decide +kernel) ⟨Nat.le_of_ble_eq_true rfl, Nat.le_of_ble_eq_true rfl⟩) hK hN hP 233 g0_233 rfl rfl hl.1 rfl (Nat.le_of_ble_eq_true rfl) dL_law_218 ⟨Nat.le_of_ble_eq_true rfl, Nat.le_of_ble_eq_true rfl⟩ ?_
              refine lv_istore_n (lv' := [(3, .int (v_count (XL_79 0) (XL_79 14 0 1) 9)), (0, .ref b), (1, .ref (ad 233))]) hx hb dL_law_221 rfl hl (by decide) rfl (fun ls hl => ?_)
              refine lv_iconst (v := 0) hx hb dL_law_222 (by decide) ?_
              refine lv_istore (lv' := [(4, .int 0), (3, .int (v_count (XL_79 0) (XL_79 14 0 1) 9)), (0, .ref b), (1, .ref (ad 233))]) hx hb dL_law_223 hl (by decide) rfl (fun ls hl => ?_)
              have hloop_225 : ∀ (n_225 : Nat) (k : Nat) (xk : Int32) (XL_225 : St) (H : Heap) (locs : List Loc), va_P D vwCl (wC cI cR ad XL_225) H → va_S (Nw s.heap.size) s.heap H locs → k ≤ N → N < k + n_225 → xk = nI k → GXn (N - k) 7800000 XL_225 → ∀ ls : Array Slot, lv_has ls 8 [(1, .ref (ad 233)), (3, .int (v_count (XL_79 0) (XL_79 14 0 1) 9)), (4, .int xk)] → W p l e room_1 s m #[Value.ref b] below meth c H locs 600000 7302250 (lw_Z below #[Value.ref b] s) (F0 m 225 ls []) := by
                intro n_225
                induction n_225 with
                | zero =>
                  intro k xk XL_225 H locs hP hS hk hn ek hg ls hl
                  exfalso; omega
                | succ n_225 ih_225 =>
                  intro k xk XL_225 H locs hP hS hk hn ek hg ls hl
                  refine lv_iload hx hb dL_law_225 (lv_at hl 2 rfl) ?_
                  refine lv_iload_n hx hb dL_law_227 rfl (lv_at hl 1 rfl) ?_
                  refine lv_icmp_ge (tgt := 278) hx hb dL_law_228 (by decide) (fun c_228 => ?_) (fun c_228 => ?_)
                  · have hk2 : k = N := lp_Ne ek e9 hNN hk c_228
                    have hg0 : GXn 0 7800000 XL_225 := by rw [show 0 = N - k by omega]; exact hg
                    refine lv_aload_n hx hb dL_law_278 rfl (lv_at hl 0 rfl) ?_
                    refine callSL (As := [.ref (ad 233)]) (rest := []) ⟨hx, hb, hml, hown, hts⟩ (c_L_all XL_225 hg0.gd.1) (va_cwS 1 hts gL_law_L_all rfl rfl rfl (by decide +kernel) ⟨Nat.le_of_ble_eq_true rfl, Nat.le_of_ble_eq_true rfl⟩) hK hN hP rfl hl.1 rfl (Nat.le_of_ble_eq_true rfl) dL_law_279 ⟨Nat.le_of_ble_eq_true rfl, Nat.le_of_ble_eq_true rfl⟩ ?_
                    refine lv_lstore (lv' := [(4, .long (h_all (XL_225 0))), (1, .ref (ad 233)), (3, .int (v_count (XL_79 0) (XL_79 14 0 1) 9))]) hx hb dL_law_282 hl (by decide) rfl (fun ls hl => ?_)
                    refine lv_aload_n hx hb dL_law_284 rfl (lv_at hl 1 rfl) ?_
                    refine callWE (As := []) (rest := []) ⟨hx, hb, hml, hown, hts⟩ (c_X5_undo hdj XL_225) (cwV 0 hts gL_law_X5_undo rfl rfl rfl (by decide +kernel) ⟨Nat.le_of_ble_eq_true rfl, Nat.le_of_ble_eq_true rfl⟩) hK hN hP 233 g0_233 rfl rfl hl.1 rfl (Nat.le_of_ble_eq_true rfl) dL_law_285 ⟨Nat.le_of_ble_eq_true rfl, Nat.le_of_ble_eq_true rfl⟩ hS hAC (fun H locs hP hS _ _ => ?_)
                    obtain ⟨X_1, eX_1⟩ : ∃ Zn : St, Zn = N_undo XL_225 := ⟨_, rfl⟩
                    rw [← eX_1] at hP
                    have e5 : X_1 = XL_225 := by rw [eX_1]; exact hg0.undo0.1
                    rw [e5] at hP
                    refine lv_bipush (v := (-2)) hx hb dL_law_288 (by decide) ?_
                    refine lv_icmp_ne (tgt := 359) hx hb dL_law_290 (by decide) (fun h9 => absurd hg0.undo0.2 h9) (fun c_290 => ?_)
                    refine lv_aload_n hx hb dL_law_293 rfl (lv_at hl 1 rfl) ?_
                    refine lv_iconst (v := 0) hx hb dL_law_294 (by decide) ?_
                    refine callE (As := [.int 0]) (rest := []) ⟨hx, hb, hml, hown, hts⟩ (c_X5_deed XL_225 0) (cwV 1 hts gL_law_X5_deed rfl rfl rfl (by decide +kernel) ⟨Nat.le_of_ble_eq_true rfl, Nat.le_of_ble_eq_true rfl⟩) hK hN hP 233 g0_233 rfl rfl hl.1 rfl (Nat.le_of_ble_eq_true rfl) dL_law_295 ⟨Nat.le_of_ble_eq_true rfl, Nat.le_of_ble_eq_true rfl⟩ ?_
                    refine lv_bipush (v := (-9)) hx hb dL_law_298 (by decide) ?_
                    refine lv_icmp_ne (tgt := 359) hx hb dL_law_300 (by decide) (fun h9 => absurd hg0.end0.1 h9) (fun c_300 => ?_)
                    refine lv_aload_n hx hb dL_law_303 rfl (lv_at hl 1 rfl) ?_
                    refine lv_iconst (v := 0) hx hb dL_law_304 (by decide) ?_
                    refine callWE (As := [.int 0]) (rest := []) ⟨hx, hb, hml, hown, hts⟩ (c_X5_revoke hdj XL_225 0) (cwV 1 hts gL_law_X5_revoke rfl rfl rfl (by decide +kernel) ⟨Nat.le_of_ble_eq_true rfl, Nat.le_of_ble_eq_true rfl⟩) hK hN hP 233 g0_233 rfl rfl hl.1 rfl (Nat.le_of_ble_eq_true rfl) dL_law_305 ⟨Nat.le_of_ble_eq_true rfl, Nat.le_of_ble_eq_true rfl⟩ hS hAC (fun H locs hP hS _ _ => ?_)
                    obtain ⟨X_2, eX_2⟩ : ∃ Zn : St, Zn = N_revoke XL_225 0 := ⟨_, rfl⟩
                    rw [← eX_2] at hP
                    have e6 : X_2 = XL_225 := by rw [eX_2]; exact hg0.end0.2.2
                    rw [e6] at hP
                    refine lv_bipush (v := (-2)) hx hb dL_law_308 (by decide) ?_
                    refine lv_icmp_ne (tgt := 359) hx hb dL_law_310 (by decide) (fun h9 => absurd hg0.end0.2.1 h9) (fun c_310 => ?_)
                    refine lv_aload_n hx hb dL_law_313 rfl (lv_at hl 1 rfl) ?_
                    refine callSL (As := [.ref (ad 233)]) (rest := []) ⟨hx, hb, hml, hown, hts⟩ (c_L_all XL_225 hg0.gd.1) (va_cwS 1 hts gL_law_L_all rfl rfl rfl (by decide +kernel) ⟨Nat.le_of_ble_eq_true rfl, Nat.le_of_ble_eq_true rfl⟩) hK hN hP rfl hl.1 rfl (Nat.le_of_ble_eq_true rfl) dL_law_314 ⟨Nat.le_of_ble_eq_true rfl, Nat.le_of_ble_eq_true rfl⟩ ?_
                    refine lv_lload hx hb dL_law_317 (lv_at hl 0 rfl) ?_
                    refine W.lcmp hx hb dL_law_319 ?_
                    rw [lg_00]
                    refine lv_if_ne (tgt := 359) hx hb dL_law_320 (by decide) (fun h9 => absurd (by decide) h9) (fun _ => ?_)
                    refine lv_aload_n hx hb dL_law_323 rfl (lv_at hl 1 rfl) ?_
                    refine lv_bipush (v := 10) hx hb dL_law_324 (by decide) ?_
                    refine callE (As := [.int 10]) (rest := []) ⟨hx, hb, hml, hown, hts⟩ (c_X5_count XL_225 10) (cwV 1 hts gL_law_X5_count rfl rfl rfl (by decide +kernel) ⟨Nat.le_of_ble_eq_true rfl, Nat.le_of_ble_eq_true rfl⟩) hK hN hP 233 g0_233 rfl rfl hl.1 rfl (Nat.le_of_ble_eq_true rfl) dL_law_326 ⟨Nat.le_of_ble_eq_true rfl, Nat.le_of_ble_eq_true rfl⟩ ?_
                    refine lv_iconst (v := (-1)) hx hb dL_law_329 (by decide) ?_
                    refine lv_icmp_ne (tgt := 359) hx hb dL_law_330 (by decide) (fun h9 => absurd vc_10 h9) (fun c_330 => ?_)
                    refine lv_aload_n hx hb dL_law_333 rfl (lv_at hl 1 rfl) ?_
                    refine lv_bipush (v := 40) hx hb dL_law_334 (by decide) ?_
                    refine lv_iconst (v := 0) hx hb dL_law_336 (by decide) ?_
                    refine callE (As := [.int 40, .int 0]) (rest := []) ⟨hx, hb, hml, hown, hts⟩ (c_X5_commitment XL_225 40 0) (cwV 2 hts gL_law_X5_commitment rfl rfl rfl (by decide +kernel) ⟨Nat.le_of_ble_eq_true rfl, Nat.le_of_ble_eq_true rfl⟩) hK hN hP 233 g0_233 rfl rfl hl.1 rfl (Nat.le_of_ble_eq_true rfl) dL_law_337 ⟨Nat.le_of_ble_eq_true rfl, Nat.le_of_ble_eq_true rfl⟩ ?_
                    refine lv_iconst (v := (-1)) hx hb dL_law_340 (by decide) ?_
                    refine lv_icmp_ne (tgt := 359) hx hb dL_law_341 (by decide) (fun h9 => absurd vm_no h9) (fun c_341 => ?_)
                    refine lv_aload_n hx hb dL_law_344 rfl (lv_at hl 1 rfl) ?_
                    refine lv_bipush (v := 20) hx hb dL_law_345 (by decide) ?_
                    refine lv_iconst (v := 0) hx hb dL_law_347 (by decide) ?_
                    refine callE (As := [.int 20, .int 0]) (rest := []) ⟨hx, hb, hml, hown, hts⟩ (c_X5_head XL_225 20 0) (cwV 2 hts gL_law_X5_head rfl rfl rfl (by decide +kernel) ⟨Nat.le_of_ble_eq_true rfl, Nat.le_of_ble_eq_true rfl⟩) hK hN hP 233 g0_233 rfl rfl hl.1 rfl (Nat.le_of_ble_eq_true rfl) dL_law_348 ⟨Nat.le_of_ble_eq_true rfl, Nat.le_of_ble_eq_true rfl⟩ ?_
                    refine lv_iconst (v := (-1)) hx hb dL_law_351 (by decide) ?_
                    refine lv_icmp_ne (tgt := 359) hx hb dL_law_352 (by decide) (fun h9 => absurd vh_no h9) (fun c_352 => ?_)
                    refine lv_iconst (v := 1) hx hb dL_law_355 (by decide) ?_
                    refine lv_goto (tgt := 360) hx hb dL_law_356 (by decide) ?_
                    refine va_forget (fun q hq => hS.2.2 q hq) ?_
                    exact lw_ret hx hb hr hlocks dL_law_360
                  · have hlt : k < N := lp_N ek e9 hNN hk c_228
                    obtain ⟨M, eM⟩ : ∃ M : Nat, N - k = M + 1 := ⟨N - k - 1, by omega⟩
                    rw [eM] at hg
                    refine lv_aload_n hx hb dL_law_231 rfl (lv_at hl 0 rfl) ?_
                    refine lv_iconst (v := 0) hx hb dL_law_232 (by decide) ?_
                    refine callE (As := [.int 0]) (rest := []) ⟨hx, hb, hml, hown, hts⟩ (c_X5_deed XL_225 0) (cwV 1 hts gL_law_X5_deed rfl rfl rfl (by decide +kernel) ⟨Nat.le_of_ble_eq_true rfl, Nat.le_of_ble_eq_true rfl⟩) hK hN hP 233 g0_233 rfl rfl hl.1 rfl (Nat.le_of_ble_eq_true rfl) dL_law_233 ⟨Nat.le_of_ble_eq_true rfl, Nat.le_of_ble_eq_true rfl⟩ ?_
                    refine lv_istore (lv' := [(5, .int (V_deed XL_225 0)), (1, .ref (ad 233)), (3, .int (v_count (XL_79 0) (XL_79 14 0 1) 9)), (4, .int xk)]) hx hb dL_law_236 hl (by decide) rfl (fun ls hl => ?_)
                    refine lv_iload hx hb dL_law_238 (lv_at hl 0 rfl) ?_
                    refine lv_if_lt (tgt := 270) hx hb dL_law_240 (by decide) (fun h9 => absurd h9 (nn_0 hg.deed.1)) (fun c_240 => ?_)
                    refine lv_iload hx hb dL_law_243 (lv_at hl 0 rfl) ?_
                    refine lv_bipush (v := 10) hx hb dL_law_245 (by decide) ?_
                    refine lv_icmp_gt (tgt := 270) hx hb dL_law_247 (by decide) (fun h9 => absurd h9 (dd_10 hg.deed.2)) (fun c_247 => ?_)
                    refine lv_aload_n hx hb dL_law_250 rfl (lv_at hl 1 rfl) ?_
                    refine callWE (As := []) (rest := []) ⟨hx, hb, hml, hown, hts⟩ (c_X5_undo hdj XL_225) (cwV 0 hts gL_law_X5_undo rfl rfl rfl (by decide +kernel) ⟨Nat.le_of_ble_eq_true rfl, Nat.le_of_ble_eq_true rfl⟩) hK hN hP 233 g0_233 rfl rfl hl.1 rfl (Nat.le_of_ble_eq_true rfl) dL_law_251 ⟨Nat.le_of_ble_eq_true rfl, Nat.le_of_ble_eq_true rfl⟩ hS hAC (fun H locs hP hS _ _ => ?_)
                    obtain ⟨X_3, eX_3⟩ : ∃ Zn : St, Zn = N_undo XL_225 := ⟨_, rfl⟩
                    rw [← eX_3] at hP
                    have hg2 : GXn M 7800000 X_3 := by rw [eX_3]; exact hg.undo.1
                    refine lv_iload_n hx hb dL_law_254 rfl (lv_at hl 2 rfl) ?_
                    refine lv_iconst (v := 1) hx hb dL_law_255 (by decide) ?_
                    refine lv_isub hx hb dL_law_256 ?_
                    refine lv_iload hx hb dL_law_257 (lv_at hl 3 rfl) ?_
                    refine lv_isub hx hb dL_law_259 ?_
                    refine lv_icmp_ne (tgt := 270) hx hb dL_law_260 (by decide) (fun h9 => absurd (hg.undo.2.trans (n_sub e9 ek eM hNN)) h9) (fun c_260 => ?_)
                    refine lv_aload_n hx hb dL_law_263 rfl (lv_at hl 1 rfl) ?_
                    refine callSP (As := [.ref (ad 233)]) (rest := []) ⟨hx, hb, hml, hown, hts⟩ (c_L_isSound X_3 hg2.gd (by omega)) (va_cwS 1 hts gL_law_L_isSound rfl rfl rfl (by decide +kernel) ⟨Nat.le_of_ble_eq_true rfl, Nat.le_of_ble_eq_true rfl⟩) hK hN hP rfl hl.1 rfl (Nat.le_of_ble_eq_true rfl) dL_law_264 ⟨Nat.le_of_ble_eq_true rfl, Nat.le_of_ble_eq_true rfl⟩ (fun y_264 hy_264 => ?_)
                    have hy_264 : y_264 = 1 := hy_264
                    refine lv_if_ne (tgt := 272) hx hb dL_law_267 (by decide) (fun c_267 => ?_) (fun h9 => absurd h9 (fun z => absurd (hy_264.symm.trans z) (by decide)))
                    refine lv_iinc (v := xk + 1) (lv' := [(4, .int (xk + 1)), (5, .int (V_deed XL_225 0)), (1, .ref (ad 233)), (3, .int (v_count (XL_79 0) (XL_79 14 0 1) 9))]) hx hb dL_law_272 hl (k := 3) rfl rfl (by decide) rfl (fun ls hl => ?_)
                    refine lv_goto (tgt := 225) hx hb dL_law_275 (by decide) ?_
                    exact ih_225  (k + 1) _ X_3 _ _ hP hS (by omega) (by omega) (by rw [ek]; exact nI_1 k) (by rw [show N - (k + 1) = M by omega]; exact hg2) _ (lv_sub hl [2, 3, 0] rfl)
              exact hloop_225  (N + 1) 0 0 XL_79 _ _ hP hS (Nat.zero_le _) (by omega) rfl hg0 _ (lv_sub hl [3, 1, 0] rfl)
            · have hlt : t < 24 := lp_24 et ht c_82
              refine lv_aload_n hx hb dL_law_85 rfl (lv_at hl 0 rfl) ?_
              refine lv_iconst (v := 1) hx hb dL_law_86 (by decide) ?_
              refine lv_iload_n hx hb dL_law_87 rfl (lv_at hl 2 rfl) ?_
              refine lv_iadd hx hb dL_law_88 ?_
              refine callX (As := [.ref b, .int (1 + xt)]) (rest := []) ⟨hx, hb, hml, hown, hts⟩ (c_L_cell (c1_nn et hlt) hL) (va_cwS 2 hts gL_law_L_cell rfl rfl rfl (by decide +kernel) ⟨Nat.le_of_ble_eq_true rfl, Nat.le_of_ble_eq_true rfl⟩) (hX.kept (hS.2.1 b hbl hbA)) (Nat.lt_of_lt_of_le hbl hS.1) rfl hl.1 rfl (Nat.le_of_ble_eq_true rfl) dL_law_89 ⟨Nat.le_of_ble_eq_true rfl, Nat.le_of_ble_eq_true rfl⟩ (fun y_89 _ => ?_)
              refine lv_istore (lv' := [(4, .int y_89), (0, .ref b), (1, .ref (ad 233)), (3, .int xt)]) hx hb dL_law_92 hl (by decide) rfl (fun ls hl => ?_)
              refine lv_aload_n hx hb dL_law_94 rfl (lv_at hl 2 rfl) ?_
              refine callSL (As := [.ref (ad 233)]) (rest := []) ⟨hx, hb, hml, hown, hts⟩ (c_L_all XL_79 hv.gd.1) (va_cwS 1 hts gL_law_L_all rfl rfl rfl (by decide +kernel) ⟨Nat.le_of_ble_eq_true rfl, Nat.le_of_ble_eq_true rfl⟩) hK hN hP rfl hl.1 rfl (Nat.le_of_ble_eq_true rfl) dL_law_95 ⟨Nat.le_of_ble_eq_true rfl, Nat.le_of_ble_eq_true rfl⟩ ?_
              refine lv_lstore (lv' := [(5, .long (h_all (XL_79 0))), (4, .int y_89), (0, .ref b), (1, .ref (ad 233)), (3, .int xt)]) hx hb dL_law_98 hl (by decide) rfl (fun ls hl => ?_)
              refine lv_aload_n hx hb dL_law_100 rfl (lv_at hl 3 rfl) ?_
              refine lv_iload hx hb dL_law_101 (lv_at hl 1 rfl) ?_
              refine callWS (As := [.ref (ad 233), .int y_89]) (rest := []) ⟨hx, hb, hml, hown, hts⟩ (c_L_acts hdj XL_79 hv (by omega) y_89) (va_cwS 2 hts gL_law_L_acts rfl rfl rfl (by decide +kernel) ⟨Nat.le_of_ble_eq_true rfl, Nat.le_of_ble_eq_true rfl⟩) hK hN hP rfl hl.1 rfl (Nat.le_of_ble_eq_true rfl) dL_law_103 ⟨Nat.le_of_ble_eq_true rfl, Nat.le_of_ble_eq_true rfl⟩ hS hAC (fun y_103 Z_103 H locs hy_103 hP hS => ?_)
              have hy_103 : StpG ((600000 + 300000 * (t : Int)) + 100000) XL_79 Z_103 y_103 := hy_103
              refine lv_istore (lv' := [(7, .int y_103), (5, .long (h_all (XL_79 0))), (4, .int y_89), (0, .ref b), (1, .ref (ad 233)), (3, .int xt)]) hx hb dL_law_106 hl (by decide) rfl (fun ls hl => ?_)
              have hj_125 : ∀ ls : Array Slot, lv_has ls 8 [(0, .ref b), (1, .ref (ad 233)), (3, .int xt), (4, .int y_89), (5, .long (h_all (XL_79 0))), (7, .int y_103)] → W p l e room_1 s m #[Value.ref b] below meth c H locs 600000 7302250 (lw_Z below #[Value.ref b] s) (F0 m 125 ls []) := by
                intro   ls hl
                have hj_159 : ∀  (Z : St) (H : Heap) (locs : List Loc), va_P D vwCl (wC cI cR ad Z) H → va_S (Nw s.heap.size) s.heap H locs → GX ((600000 + 300000 * (t : Int)) + 100000) Z → ∀ ls : Array Slot, lv_has ls 8 [(0, .ref b), (1, .ref (ad 233)), (3, .int xt), (4, .int y_89)] → W p l e room_1 s m #[Value.ref b] below meth c H locs 600000 7302250 (lw_Z below #[Value.ref b] s) (F0 m 159 ls []) := by
                  intro  Z H locs hP hS hz ls hl
                  have hj_173 : ∀ ls : Array Slot, lv_has ls 8 [(0, .ref b), (1, .ref (ad 233)), (3, .int xt), (4, .int y_89)] → W p l e room_1 s m #[Value.ref b] below meth c H locs 600000 7302250 (lw_Z below #[Value.ref b] s) (F0 m 173 ls []) := by
                    intro   ls hl
                    have hj_192 : ∀  (Z : St) (H : Heap) (locs : List Loc), va_P D vwCl (wC cI cR ad Z) H → va_S (Nw s.heap.size) s.heap H locs → GX ((600000 + 300000 * (t : Int)) + 200000) Z → ∀ ls : Array Slot, lv_has ls 8 [(0, .ref b), (1, .ref (ad 233)), (3, .int xt)] → W p l e room_1 s m #[Value.ref b] below meth c H locs 600000 7302250 (lw_Z below #[Value.ref b] s) (F0 m 192 ls []) := by
                      intro  Z H locs hP hS hz2 ls hl
                      refine lv_iload_n hx hb dL_law_192 rfl (lv_at hl 2 rfl) ?_
                      refine lv_bipush (v := 8) hx hb dL_law_193 (by decide) ?_
                      refine lv_irem hx hb dL_law_195 (by decide) ?_
                      refine lv_iconst (v := 5) hx hb dL_law_196 (by decide) ?_
                      refine lv_icmp_ne (tgt := 209) hx hb dL_law_197 (by decide) (fun c_197 => ?_) (fun c_197 => ?_)
                      · refine lv_iinc (v := xt + 1) (lv' := [(3, .int (xt + 1)), (0, .ref b), (1, .ref (ad 233))]) hx hb dL_law_209 hl (k := 2) rfl rfl (by decide) rfl (fun ls hl => ?_)
                        refine lv_goto (tgt := 79) hx hb dL_law_212 (by decide) ?_
                        exact ih_79  (t + 1) _ Z _ _ hP hS (by omega) (by omega) (by rw [et]; exact nI_1 t) (hz2.mono (by omega) (by omega)) _ (lv_sub hl [1, 2, 0] rfl)
                      · refine lv_aload_n hx hb dL_law_200 rfl (lv_at hl 1 rfl) ?_
                        refine callWS (As := [.ref (ad 233)]) (rest := []) ⟨hx, hb, hml, hown, hts⟩ (c_L_isEnded hdj Z hz2 (by omega)) (va_cwS 1 hts gL_law_L_isEnded rfl rfl rfl (by decide +kernel) ⟨Nat.le_of_ble_eq_true rfl, Nat.le_of_ble_eq_true rfl⟩) hK hN hP rfl hl.1 rfl (Nat.le_of_ble_eq_true rfl) dL_law_201 ⟨Nat.le_of_ble_eq_true rfl, Nat.le_of_ble_eq_true rfl⟩ hS hAC (fun y_201 Z_201 H locs hy_201 hP hS => ?_)
                        have hy_201 : y_201 = 1 ∧ GX ((600000 + 300000 * (t : Int)) + 200000 + 100000) Z_201 ∧ Z_201 0 = Z 0 := hy_201
                        refine lv_if_ne (tgt := 209) hx hb dL_law_204 (by decide) (fun c_204 => ?_) (fun h9 => absurd h9 (fun z => absurd (hy_201.1.symm.trans z) (by decide)))
                        refine lv_iinc (v := xt + 1) (lv' := [(3, .int (xt + 1)), (0, .ref b), (1, .ref (ad 233))]) hx hb dL_law_209 hl (k := 2) rfl rfl (by decide) rfl (fun ls hl => ?_)
                        refine lv_goto (tgt := 79) hx hb dL_law_212 (by decide) ?_
                        exact ih_79  (t + 1) _ Z_201 _ _ hP hS (by omega) (by omega) (by rw [et]; exact nI_1 t) (hy_201.2.1.mono (by omega) (by omega)) _ (lv_sub hl [1, 2, 0] rfl)
                    refine lv_iload_n hx hb dL_law_173 rfl (lv_at hl 2 rfl) ?_
                    refine lv_iconst (v := 3) hx hb dL_law_174 (by decide) ?_
                    refine lv_irem hx hb dL_law_175 (by decide) ?_
                    refine lv_iconst (v := 2) hx hb dL_law_176 (by decide) ?_
                    refine lv_icmp_ne (tgt := 192) hx hb dL_law_177 (by decide) (fun c_177 => ?_) (fun c_177 => ?_)
                    · exact hj_192  Z _ _ hP hS (hz.mono (by omega) (by omega)) _ (lv_sub hl [0, 1, 2] rfl)
                    · refine lv_aload_n hx hb dL_law_180 rfl (lv_at hl 1 rfl) ?_
                      refine lv_iload hx hb dL_law_181 (lv_at hl 3 rfl) ?_
                      refine lv_bipush (v := 7) hx hb dL_law_183 (by decide) ?_
                      refine lv_ishr hx hb dL_law_185 ?_
                      refine callWS (As := [.ref (ad 233), .int (y_89 >>> (7 &&& 31))]) (rest := []) ⟨hx, hb, hml, hown, hts⟩ (c_L_isMost hdj Z hz (by omega) (y_89 >>> (7 &&& 31))) (va_cwS 2 hts gL_law_L_isMost rfl rfl rfl (by decide +kernel) ⟨Nat.le_of_ble_eq_true rfl, Nat.le_of_ble_eq_true rfl⟩) hK hN hP rfl hl.1 rfl (Nat.le_of_ble_eq_true rfl) dL_law_186 ⟨Nat.le_of_ble_eq_true rfl, Nat.le_of_ble_eq_true rfl⟩ hS hAC (fun y_186 Z_186 H locs hy_186 hP hS => ?_)
                      have hy_186 : y_186 = 1 ∧ GX ((600000 + 300000 * (t : Int)) + 100000 + 100000) Z_186 ∧ Z_186 0 = Z 0 := hy_186
                      refine lv_if_eq (tgt := 207) hx hb dL_law_189 (by decide) (fun h9 => absurd h9 (fun z => absurd (hy_186.1.symm.trans z) (by decide))) (fun c_189 => ?_)
                      exact hj_192  Z_186 _ _ hP hS (hy_186.2.1.mono (by omega) (by omega)) _ (lv_sub hl [0, 1, 2] rfl)
                  refine lv_iload_n hx hb dL_law_159 rfl (lv_at hl 2 rfl) ?_
                  refine lv_iconst (v := 3) hx hb dL_law_160 (by decide) ?_
                  refine lv_irem hx hb dL_law_161 (by decide) ?_
                  refine lv_iconst (v := 1) hx hb dL_law_162 (by decide) ?_
                  refine lv_icmp_ne (tgt := 173) hx hb dL_law_163 (by decide) (fun c_163 => ?_) (fun c_163 => ?_)
                  · exact hj_173   _ (lv_sub hl [0, 1, 2, 3] rfl)
                  · refine lv_aload_n hx hb dL_law_166 rfl (lv_at hl 1 rfl) ?_
                    refine callSP (As := [.ref (ad 233)]) (rest := []) ⟨hx, hb, hml, hown, hts⟩ (c_L_isSound Z hz.gd (by omega)) (va_cwS 1 hts gL_law_L_isSound rfl rfl rfl (by decide +kernel) ⟨Nat.le_of_ble_eq_true rfl, Nat.le_of_ble_eq_true rfl⟩) hK hN hP rfl hl.1 rfl (Nat.le_of_ble_eq_true rfl) dL_law_167 ⟨Nat.le_of_ble_eq_true rfl, Nat.le_of_ble_eq_true rfl⟩ (fun y_167 hy_167 => ?_)
                    have hy_167 : y_167 = 1 := hy_167
                    refine lv_if_eq (tgt := 207) hx hb dL_law_170 (by decide) (fun h9 => absurd h9 (fun z => absurd (hy_167.symm.trans z) (by decide))) (fun c_170 => ?_)
                    exact hj_173   _ (lv_sub hl [0, 1, 2, 3] rfl)
                refine lv_iload hx hb dL_law_125 (lv_at hl 5 rfl) ?_
                refine lv_if_lt (tgt := 159) hx hb dL_law_127 (by decide) (fun c_127 => ?_) (fun c_127 => ?_)
                · exact hj_159  Z_103 _ _ hP hS hy_103.1 _ (lv_sub hl [0, 1, 2, 3] rfl)
                · refine lv_iload hx hb dL_law_130 (lv_at hl 3 rfl) ?_
                  refine lv_bipush (v := 28) hx hb dL_law_132 (by decide) ?_
                  refine lv_ishr hx hb dL_law_134 ?_
                  refine lv_iconst (v := 3) hx hb dL_law_135 (by decide) ?_
                  refine lv_iand hx hb dL_law_136 ?_
                  refine lv_if_ne (tgt := 159) hx hb dL_law_137 (by decide) (fun c_137 => ?_) (fun c_137 => ?_)
                  · exact hj_159  Z_103 _ _ hP hS hy_103.1 _ (lv_sub hl [0, 1, 2, 3] rfl)
                  · refine lv_aload_n hx hb dL_law_140 rfl (lv_at hl 1 rfl) ?_
                    refine callWE (As := []) (rest := []) ⟨hx, hb, hml, hown, hts⟩ (c_X5_undo hdj Z_103) (cwV 0 hts gL_law_X5_undo rfl rfl rfl (by decide +kernel) ⟨Nat.le_of_ble_eq_true rfl, Nat.le_of_ble_eq_true rfl⟩) hK hN hP 233 g0_233 rfl rfl hl.1 rfl (Nat.le_of_ble_eq_true rfl) dL_law_141 ⟨Nat.le_of_ble_eq_true rfl, Nat.le_of_ble_eq_true rfl⟩ hS hAC (fun H locs hP hS _ _ => ?_)
                    obtain ⟨X_4, eX_4⟩ : ∃ Zn : St, Zn = N_undo Z_103 := ⟨_, rfl⟩
                    rw [← eX_4] at hP
                    have hu : GX ((600000 + 300000 * (t : Int)) + 100000) X_4 := by rw [eX_4]; exact hy_103.1.undo
                    have hu0 : X_4 0 = XL_79 0 := by rw [eX_4]; exact (hy_103.2.2 (ps_t c_127)).2
                    refine lv_if_lt (tgt := 157) hx hb dL_law_144 (by decide) (fun h9 => absurd h9 (nn_0 (hy_103.2.2 (ps_t c_127)).1)) (fun c_144 => ?_)
                    refine lv_aload_n hx hb dL_law_147 rfl (lv_at hl 1 rfl) ?_
                    refine callSL (As := [.ref (ad 233)]) (rest := []) ⟨hx, hb, hml, hown, hts⟩ (c_L_all X_4 hu.gd.1) (va_cwS 1 hts gL_law_L_all rfl rfl rfl (by decide +kernel) ⟨Nat.le_of_ble_eq_true rfl, Nat.le_of_ble_eq_true rfl⟩) hK hN hP rfl hl.1 rfl (Nat.le_of_ble_eq_true rfl) dL_law_148 ⟨Nat.le_of_ble_eq_true rfl, Nat.le_of_ble_eq_true rfl⟩ ?_
                    refine lv_lload hx hb dL_law_151 (lv_at hl 4 rfl) ?_
                    refine W.lcmp hx hb dL_law_153 ?_
                    rw [hu0, lg_00]
                    refine lv_if_eq (tgt := 159) hx hb dL_law_154 (by decide) (fun _ => ?_) (fun h9 => absurd (by decide) h9)
                    exact hj_159  X_4 _ _ hP hS hu _ (lv_sub hl [0, 1, 2, 3] rfl)
              refine lv_iload hx hb dL_law_108 (lv_at hl 0 rfl) ?_
              refine lv_if_ge (tgt := 125) hx hb dL_law_110 (by decide) (fun c_110 => ?_) (fun c_110 => ?_)
              · exact hj_125   _ (lv_sub hl [3, 4, 5, 2, 1, 0] rfl)
              · refine lv_aload_n hx hb dL_law_113 rfl (lv_at hl 4 rfl) ?_
                refine callSL (As := [.ref (ad 233)]) (rest := []) ⟨hx, hb, hml, hown, hts⟩ (c_L_all Z_103 hy_103.1.gd.1) (va_cwS 1 hts gL_law_L_all rfl rfl rfl (by decide +kernel) ⟨Nat.le_of_ble_eq_true rfl, Nat.le_of_ble_eq_true rfl⟩) hK hN hP rfl hl.1 rfl (Nat.le_of_ble_eq_true rfl) dL_law_114 ⟨Nat.le_of_ble_eq_true rfl, Nat.le_of_ble_eq_true rfl⟩ ?_
                refine lv_lload hx hb dL_law_117 (lv_at hl 1 rfl) ?_
                refine W.lcmp hx hb dL_law_119 ?_
                rw [hy_103.2.1 (ng_t c_110), lg_00]
                refine lv_if_eq (tgt := 125) hx hb dL_law_120 (by decide) (fun _ => ?_) (fun h9 => absurd (by decide) h9)
                exact hj_125   _ (lv_sub hl [3, 4, 5, 2, 1, 0] rfl)
        exact hloop_79  25 0 0 XL_16 _ _ hP hS (by omega) (by omega) rfl (v3.mono (by omega) (by omega)) _ (lv_sub hl [1, 2, 0] rfl)
      · have hlt : k < 3 := lp_3 ek hk c_18
        refine lv_aload_n hx hb dL_law_21 rfl (lv_at hl 1 rfl) ?_
        refine lv_iload_n hx hb dL_law_22 rfl (lv_at hl 2 rfl) ?_
        refine lv_iconst (v := 2) hx hb dL_law_23 (by decide) ?_
        refine lv_iload_n hx hb dL_law_24 rfl (lv_at hl 3 rfl) ?_
        refine lv_imul hx hb dL_law_25 ?_
        refine lv_ishr hx hb dL_law_26 ?_
        refine lv_iload_n hx hb dL_law_27 rfl (lv_at hl 3 rfl) ?_
        refine lv_iconst (v := 1) hx hb dL_law_28 (by decide) ?_
        refine lv_iadd hx hb dL_law_29 ?_
        refine callSP (As := [.int (y_10 >>> ((2 * xk) &&& 31)), .int (xk + 1)]) (rest := [.ref (ad 233)]) ⟨hx, hb, hml, hown, hts⟩ (c_L_low (y_10 >>> ((2 * xk) &&& 31)) (xk + 1) (kp_1 ek hlt)) (va_cwS 2 hts gL_law_L_low rfl rfl rfl (by decide +kernel) ⟨Nat.le_of_ble_eq_true rfl, Nat.le_of_ble_eq_true rfl⟩) hK hN nilP rfl hl.1 rfl (Nat.le_of_ble_eq_true rfl) dL_law_30 ⟨Nat.le_of_ble_eq_true rfl, Nat.le_of_ble_eq_true rfl⟩ (fun y_30 hy_30 => ?_)
        refine lv_iload_n hx hb dL_law_33 rfl (lv_at hl 2 rfl) ?_
        refine lv_bipush (v := 7) hx hb dL_law_34 (by decide) ?_
        refine lv_iconst (v := 3) hx hb dL_law_36 (by decide) ?_
        refine lv_iload_n hx hb dL_law_37 rfl (lv_at hl 3 rfl) ?_
        refine lv_imul hx hb dL_law_38 ?_
        refine lv_iadd hx hb dL_law_39 ?_
        refine lv_ishr hx hb dL_law_40 ?_
        refine lv_bipush (v := 10) hx hb dL_law_41 (by decide) ?_
        refine callSP (As := [.int (y_10 >>> ((7 + (3 * xk)) &&& 31)), .int 10]) (rest := [.int y_30, .ref (ad 233)]) ⟨hx, hb, hml, hown, hts⟩ (c_L_low (y_10 >>> ((7 + (3 * xk)) &&& 31)) 10 (by decide)) (va_cwS 2 hts gL_law_L_low rfl rfl rfl (by decide +kernel) ⟨Nat.le_of_ble_eq_true rfl, Nat.le_of_ble_eq_true rfl⟩) hK hN nilP rfl hl.1 rfl (Nat.le_of_ble_eq_true rfl) dL_law_43 ⟨Nat.le_of_ble_eq_true rfl, Nat.le_of_ble_eq_true rfl⟩ (fun y_43 hy_43 => ?_)
        refine callWE (As := [.int y_30, .int y_43]) (rest := []) ⟨hx, hb, hml, hown, hts⟩ (c_X5_make hdj XL_16 y_30 y_43) (cwV 2 hts gL_law_X5_make rfl rfl rfl (by decide +kernel) ⟨Nat.le_of_ble_eq_true rfl, Nat.le_of_ble_eq_true rfl⟩) hK hN hP 233 g0_233 rfl rfl hl.1 rfl (Nat.le_of_ble_eq_true rfl) dL_law_46 ⟨Nat.le_of_ble_eq_true rfl, Nat.le_of_ble_eq_true rfl⟩ hS hAC (fun H locs hP hS _ _ => ?_)
        obtain ⟨X_5, eX_5⟩ : ∃ Zn : St, Zn = opX XL_16 (g_make (XL_16 0) y_30 y_43) 0 (-9) (-9) 0 (n_make (XL_16 0) y_30 y_43) := ⟨_, rfl⟩
        rw [← eX_5] at hP
        have v1 : GX (200000 * (k : Int) + 100000) X_5 := by rw [eX_5]; exact (stp_make hv (by omega)).1
        refine lv_pop hx hb dL_law_49 rfl ?_
        refine lv_aload_n hx hb dL_law_50 rfl (lv_at hl 1 rfl) ?_
        refine lv_iload_n hx hb dL_law_51 rfl (lv_at hl 3 rfl) ?_
        refine lv_iconst (v := 1) hx hb dL_law_52 (by decide) ?_
        refine lv_iadd hx hb dL_law_53 ?_
        refine lv_iconst (v := 1) hx hb dL_law_54 (by decide) ?_
        refine lv_iload_n hx hb dL_law_55 rfl (lv_at hl 2 rfl) ?_
        refine lv_iconst (v := 5) hx hb dL_law_56 (by decide) ?_
        refine lv_iload_n hx hb dL_law_57 rfl (lv_at hl 3 rfl) ?_
        refine lv_imul hx hb dL_law_58 ?_
        refine lv_ishr hx hb dL_law_59 ?_
        refine lv_sipush (v := 9000) hx hb dL_law_60 (by decide) ?_
        refine callSP (As := [.int (y_10 >>> ((5 * xk) &&& 31)), .int 9000]) (rest := [.int 1, .int (xk + 1), .ref (ad 233)]) ⟨hx, hb, hml, hown, hts⟩ (c_L_low (y_10 >>> ((5 * xk) &&& 31)) 9000 (by decide)) (va_cwS 2 hts gL_law_L_low rfl rfl rfl (by decide +kernel) ⟨Nat.le_of_ble_eq_true rfl, Nat.le_of_ble_eq_true rfl⟩) hK hN nilP rfl hl.1 rfl (Nat.le_of_ble_eq_true rfl) dL_law_63 ⟨Nat.le_of_ble_eq_true rfl, Nat.le_of_ble_eq_true rfl⟩ (fun y_63 hy_63 => ?_)
        refine lv_iadd hx hb dL_law_66 ?_
        refine callWE (As := [.int (xk + 1), .int (1 + y_63)]) (rest := []) ⟨hx, hb, hml, hown, hts⟩ (c_X5_allot hdj X_5 (xk + 1) (1 + y_63)) (cwV 2 hts gL_law_X5_allot rfl rfl rfl (by decide +kernel) ⟨Nat.le_of_ble_eq_true rfl, Nat.le_of_ble_eq_true rfl⟩) hK hN hP 233 g0_233 rfl rfl hl.1 rfl (Nat.le_of_ble_eq_true rfl) dL_law_67 ⟨Nat.le_of_ble_eq_true rfl, Nat.le_of_ble_eq_true rfl⟩ hS hAC (fun H locs hP hS _ _ => ?_)
        obtain ⟨X_6, eX_6⟩ : ∃ Zn : St, Zn = opX X_5 (g_allot (X_5 0) (xk + 1) (1 + y_63)) 1 (-9) (-9) 0 (n_allot (X_5 0) (xk + 1) (1 + y_63)) := ⟨_, rfl⟩
        rw [← eX_6] at hP
        have v2 : GX (200000 * (k : Int) + 100000 + 100000) X_6 := by rw [eX_6]; exact (stp_allot v1 (by omega)).1
        refine lv_pop hx hb dL_law_70 rfl ?_
        refine lv_iinc (v := xk + 1) (lv' := [(3, .int (xk + 1)), (0, .ref b), (1, .ref (ad 233)), (2, .int y_10)]) hx hb dL_law_71 hl (k := 3) rfl rfl (by decide) rfl (fun ls hl => ?_)
        refine lv_goto (tgt := 16) hx hb dL_law_74 (by decide) ?_
        exact ih_16  (k + 1) _ X_6 _ _ hP hS (by omega) (by omega) (by rw [ek]; exact nI_1 k) (v2.mono (by omega) (by omega)) _ (lv_sub hl [1, 2, 3, 0] rfl)
  exact hloop_16  4 0 0 X0c _ _ hP hS (by omega) (by omega) rfl (gx_0.mono (by omega) (by omega)) _ (lv_sub hl [3, 2, 1, 0] rfl)
