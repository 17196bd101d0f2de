set_option maxHeartbeats 8000000 in
set_option maxRecDepth 100000 in
/-- at the loop's head, with t rounds done, the two are related -/
theorem law_loop {p : Program} {l : Launch} {e : Env} {s : State} {m : MethodId} {below : List Frame} {meth : Method} {c : Code} {b L : Nat} {xs : Nat → Int32} {D : va_G} {cI cR : ClassId} {ad am : Nat → Nat} (hL : L ≤ 2048) (C0 : lw_At p s m meth c b L xs) (hK : va_K D vwCl (tysC cI cR) s) (hN : Nst s) (hdC : Dj 236 ad) (hdM : Dj 9 am) (hdis : ∀ i j, i < 236 → j < 9 → ad i ≠ am j) (hFC : ∀ k, k < 236 → Nw s.heap.size (ad k)) (hFM : ∀ k, k < 9 → Nw s.heap.size (am k)) :
    ∀ (fu t : Nat) (xk : Int32) (X Y : St) (H : Heap) (locs : List Loc), 600 < t + fu → 4 * t ≤ L → xk = nI (4 * t) → Rel t X Y → va_P D vwCl (wC cI cR ad X) H → va_P D vwCl (wM cI am Y) H → va_S (Nw s.heap.size) s.heap H locs → ∀ ls : Array Slot, lv_has ls 4 [(0, .ref b), (1, .ref (ad 233)), (2, .ref (am 0)), (3, .int xk)] → W p l e room_1 s m #[Value.ref b] below meth c H locs 600000 7302250 (lw_Z below #[Value.ref b] s) (F0 m 18 ls []) := by
  obtain ⟨hx, hb, hr, hml, hown, hts, hX, hbl, hlocks, hgv⟩ := C0
  have hb : c.code = cL_law := hb
  have hown : s.vm.findClass RL = some m.cls := hown
  have htsL : ∀ w ∈ wsL_law, w.before #[Value.ref b] s = true := fun w h => hts w (wsL_law_in w h)
  have hbA : ¬ Nw s.heap.size b := Nat.not_le.mpr hbl
  have hAC : ∀ q, Aw 236 ad q → Nw s.heap.size q := fun q h => h.elim (fun k z => by rw [z.2]; exact hFC k z.1)
  have hAM : ∀ q, Aw 9 am q → Nw s.heap.size q := fun q h => h.elim (fun k z => by rw [z.2]; exact hFM k z.1)
  intro fu
  induction fu with
  | zero => intro t xk X Y H locs h1 h2; exfalso; omega
  | succ fu ih =>
    intro t xk X Y H locs hfu h4 ek v hPC hPM hS ls hl
    refine lv_iload_n hx hb dL_law_18 rfl (lv_at hl 3 rfl) ?_
    refine lv_aload_n hx hb dL_law_19 rfl (lv_at hl 0 rfl) ?_
    refine va_slen hx hb hX hbl hbA hS dL_law_20 ?_
    refine lv_iconst (v := 4) hx hb dL_law_21 (by decide) ?_
    refine lv_isub hx hb dL_law_22 ?_
    refine lv_icmp_gt (tgt := 731) hx hb dL_law_23 (by decide) (fun c_23 => ?_) (fun c_23 => ?_)
    · refine lv_iconst (v := 1) hx hb dL_law_731 (by decide) ?_
      refine va_forget (fun q hq => hS.2.2 q hq) ?_
      exact lw_ret hx hb hr hlocks dL_law_732
    · have hgo : 4 * t + 4 ≤ L := law_le hL h4 (by rw [← ek]; exact c_23)
      have ht : t + 1 ≤ 600 := by omega
      have hok := (rel_ok v).1
      obtain ⟨n, hn, hd, _⟩ := rel_n v
      have hnext : ∀ (X2 Y2 : St) (H : Heap) (locs : List Loc), Rel (t + 1) X2 Y2 → va_P D vwCl (wC cI cR ad X2) H → va_P D vwCl (wM cI am Y2) H → va_S (Nw s.heap.size) s.heap H locs → ∀ ls : Array Slot, lv_has ls 4 [(0, .ref b), (1, .ref (ad 233)), (2, .ref (am 0)), (3, .int xk)] → W p l e room_1 s m #[Value.ref b] below meth c H locs 600000 7302250 (lw_Z below #[Value.ref b] s) (F0 m 725 ls []) := by
        intro X2 Y2 H locs hR hPC hPM hS ls hl
        refine lv_iinc (v := xk + 4) (lv' := [(3, .int (xk + 4)), (0, .ref b), (1, .ref (ad 233)), (2, .ref (am 0))]) hx hb dL_law_725 hl (k := 3) rfl rfl (by decide) rfl (fun ls hl => ?_)
        refine lv_goto (tgt := 18) hx hb dL_law_728 (by decide) ?_
        exact ih (t + 1) (xk + 4) X2 Y2 H locs (by omega) (by omega) (by rw [ek, show 4 * (t + 1) = 4 * t + 4 by omega]; exact nI_add (4 * t) 4) hR hPC hPM hS ls (lv_sub hl [1, 2, 3, 0] rfl)
      refine lv_aload_n hx hb dL_law_26 rfl (lv_at hl 0 rfl) ?_
      refine lv_iload_n hx hb dL_law_27 rfl (lv_at hl 3 rfl) ?_
      refine va_sld hx hb hX hbl hbA hS (law_in0 hL hgo ek) dL_law_28 ?_
      refine lv_bipush (v := 31) hx hb dL_law_29 (by decide) ?_
      refine lv_iand hx hb dL_law_31 ?_
      by_cases s_0 : (xs xk.toNatClampNeg) &&& 31 = 0
      · refine lv_tableIn (off := 100) (tgt := 132) hx hb dL_law_32 (by rw [s_0]; decide) (by rw [s_0]; decide) (by rw [s_0]; rfl) (by decide) ?_
        refine lv_aload_n hx hb dL_law_132 rfl (lv_at hl 1 rfl) ?_
        refine lv_aload_n hx hb dL_law_133 rfl (lv_at hl 0 rfl) ?_
        refine lv_iload_n hx hb dL_law_134 rfl (lv_at hl 3 rfl) ?_
        refine lv_iconst (v := 1) hx hb dL_law_135 (by decide) ?_
        refine lv_iadd hx hb dL_law_136 ?_
        refine va_sld hx hb hX hbl hbA hS (law_in hL hgo ek (show (1 : Int32) = nI 1 from rfl) (by omega)) dL_law_137 ?_
        refine lv_aload_n hx hb dL_law_138 rfl (lv_at hl 0 rfl) ?_
        refine lv_iload_n hx hb dL_law_139 rfl (lv_at hl 3 rfl) ?_
        refine lv_iconst (v := 2) hx hb dL_law_140 (by decide) ?_
        refine lv_iadd hx hb dL_law_141 ?_
        refine va_sld hx hb hX hbl hbA hS (law_in hL hgo ek (show (2 : Int32) = nI 2 from rfl) (by omega)) dL_law_142 ?_
        refine callWE (As := [.int (xs (xk + 1).toNatClampNeg), .int (xs (xk + 2).toNatClampNeg)]) (rest := []) ⟨hx, hb, hml, hown, htsL⟩ (c_X5_make hdC X (xs (xk + 1).toNatClampNeg) (xs (xk + 2).toNatClampNeg)) (cwV 2 htsL gL_law_X5_make rfl rfl rfl (by decide +kernel) ⟨Nat.le_of_ble_eq_true rfl, Nat.le_of_ble_eq_true rfl⟩) hK hN hPC 233 g0_233 rfl rfl hl.1 rfl (Nat.le_of_ble_eq_true rfl) dL_law_143 ⟨Nat.le_of_ble_eq_true rfl, Nat.le_of_ble_eq_true rfl⟩ hS hAC (fun H locs hPC hS _ hk1 => ?_)
        have hPM := keepP hPM hk1 (wM_no hdM hdis)
        refine lv_aload_n hx hb dL_law_146 rfl (lv_at hl 2 rfl) ?_
        refine lv_aload_n hx hb dL_law_147 rfl (lv_at hl 0 rfl) ?_
        refine lv_iload_n hx hb dL_law_148 rfl (lv_at hl 3 rfl) ?_
        refine lv_iconst (v := 1) hx hb dL_law_149 (by decide) ?_
        refine lv_iadd hx hb dL_law_150 ?_
        refine va_sld hx hb hX hbl hbA hS (law_in hL hgo ek (show (1 : Int32) = nI 1 from rfl) (by omega)) dL_law_151 ?_
        refine lv_aload_n hx hb dL_law_152 rfl (lv_at hl 0 rfl) ?_
        refine lv_iload_n hx hb dL_law_153 rfl (lv_at hl 3 rfl) ?_
        refine lv_iconst (v := 2) hx hb dL_law_154 (by decide) ?_
        refine lv_iadd hx hb dL_law_155 ?_
        refine va_sld hx hb hX hbl hbA hS (law_in hL hgo ek (show (2 : Int32) = nI 2 from rfl) (by omega)) dL_law_156 ?_
        refine callWE (As := [.int (xs (xk + 1).toNatClampNeg), .int (xs (xk + 2).toNatClampNeg)]) ⟨hx, hb, hml, hown, htsL⟩ (c_X6_make hdM Y n hn hd hok (xs (xk + 1).toNatClampNeg) (xs (xk + 2).toNatClampNeg)) (cwV 2 htsL gL_law_X6_make rfl rfl rfl (by decide +kernel) ⟨Nat.le_of_ble_eq_true rfl, Nat.le_of_ble_eq_true rfl⟩) hK hN hPM 0 rfl rfl rfl hl.1 rfl (Nat.le_of_ble_eq_true rfl) dL_law_157 ⟨Nat.le_of_ble_eq_true rfl, Nat.le_of_ble_eq_true rfl⟩ hS hAM (fun H locs hPM hS _ hk2 => ?_)
        have hPC := keepP hPC hk2 (wC_no hdis)
        rw [wM_make hok] at hPM
        obtain ⟨hR, hV⟩ := st_make (a := (xs (xk + 1).toNatClampNeg)) (k := (xs (xk + 2).toNatClampNeg)) ht v hn hd
        refine lv_icmp_eq (tgt := 725) hx hb dL_law_160 (by decide) (fun _ => ?_) (fun c9 => absurd hV c9)
        exact hnext _ _ H locs hR hPC hPM hS ls hl
      by_cases s_1 : (xs xk.toNatClampNeg) &&& 31 = 1
      · refine lv_tableIn (off := 133) (tgt := 165) hx hb dL_law_32 (by rw [s_1]; decide) (by rw [s_1]; decide) (by rw [s_1]; rfl) (by decide) ?_
        refine lv_aload_n hx hb dL_law_165 rfl (lv_at hl 1 rfl) ?_
        refine lv_aload_n hx hb dL_law_166 rfl (lv_at hl 0 rfl) ?_
        refine lv_iload_n hx hb dL_law_167 rfl (lv_at hl 3 rfl) ?_
        refine lv_iconst (v := 1) hx hb dL_law_168 (by decide) ?_
        refine lv_iadd hx hb dL_law_169 ?_
        refine va_sld hx hb hX hbl hbA hS (law_in hL hgo ek (show (1 : Int32) = nI 1 from rfl) (by omega)) dL_law_170 ?_
        refine lv_aload_n hx hb dL_law_171 rfl (lv_at hl 0 rfl) ?_
        refine lv_iload_n hx hb dL_law_172 rfl (lv_at hl 3 rfl) ?_
        refine lv_iconst (v := 2) hx hb dL_law_173 (by decide) ?_
        refine lv_iadd hx hb dL_law_174 ?_
        refine va_sld hx hb hX hbl hbA hS (law_in hL hgo ek (show (2 : Int32) = nI 2 from rfl) (by omega)) dL_law_175 ?_
        refine callWE (As := [.int (xs (xk + 1).toNatClampNeg), .int (xs (xk + 2).toNatClampNeg)]) (rest := []) ⟨hx, hb, hml, hown, htsL⟩ (c_X5_allot hdC X (xs (xk + 1).toNatClampNeg) (xs (xk + 2).toNatClampNeg)) (cwV 2 htsL gL_law_X5_allot rfl rfl rfl (by decide +kernel) ⟨Nat.le_of_ble_eq_true rfl, Nat.le_of_ble_eq_true rfl⟩) hK hN hPC 233 g0_233 rfl rfl hl.1 rfl (Nat.le_of_ble_eq_true rfl) dL_law_176 ⟨Nat.le_of_ble_eq_true rfl, Nat.le_of_ble_eq_true rfl⟩ hS hAC (fun H locs hPC hS _ hk1 => ?_)
        have hPM := keepP hPM hk1 (wM_no hdM hdis)
        refine lv_aload_n hx hb dL_law_179 rfl (lv_at hl 2 rfl) ?_
        refine lv_aload_n hx hb dL_law_180 rfl (lv_at hl 0 rfl) ?_
        refine lv_iload_n hx hb dL_law_181 rfl (lv_at hl 3 rfl) ?_
        refine lv_iconst (v := 1) hx hb dL_law_182 (by decide) ?_
        refine lv_iadd hx hb dL_law_183 ?_
        refine va_sld hx hb hX hbl hbA hS (law_in hL hgo ek (show (1 : Int32) = nI 1 from rfl) (by omega)) dL_law_184 ?_
        refine lv_aload_n hx hb dL_law_185 rfl (lv_at hl 0 rfl) ?_
        refine lv_iload_n hx hb dL_law_186 rfl (lv_at hl 3 rfl) ?_
        refine lv_iconst (v := 2) hx hb dL_law_187 (by decide) ?_
        refine lv_iadd hx hb dL_law_188 ?_
        refine va_sld hx hb hX hbl hbA hS (law_in hL hgo ek (show (2 : Int32) = nI 2 from rfl) (by omega)) dL_law_189 ?_
        refine callWE (As := [.int (xs (xk + 1).toNatClampNeg), .int (xs (xk + 2).toNatClampNeg)]) ⟨hx, hb, hml, hown, htsL⟩ (c_X6_allot hdM Y n hn hd hok (xs (xk + 1).toNatClampNeg) (xs (xk + 2).toNatClampNeg)) (cwV 2 htsL gL_law_X6_allot rfl rfl rfl (by decide +kernel) ⟨Nat.le_of_ble_eq_true rfl, Nat.le_of_ble_eq_true rfl⟩) hK hN hPM 0 rfl rfl rfl hl.1 rfl (Nat.le_of_ble_eq_true rfl) dL_law_190 ⟨Nat.le_of_ble_eq_true rfl, Nat.le_of_ble_eq_true rfl⟩ hS hAM (fun H locs hPM hS _ hk2 => ?_)
        have hPC := keepP hPC hk2 (wC_no hdis)
        obtain ⟨hR, hV⟩ := st_allot (h := (xs (xk + 1).toNatClampNeg)) (a := (xs (xk + 2).toNatClampNeg)) ht v hn hd
        refine lv_icmp_eq (tgt := 725) hx hb dL_law_193 (by decide) (fun _ => ?_) (fun c9 => absurd hV c9)
        exact hnext _ _ H locs hR hPC hPM hS ls hl
      by_cases s_2 : (xs xk.toNatClampNeg) &&& 31 = 2
      · refine lv_tableIn (off := 166) (tgt := 198) hx hb dL_law_32 (by rw [s_2]; decide) (by rw [s_2]; decide) (by rw [s_2]; rfl) (by decide) ?_
        refine lv_aload_n hx hb dL_law_198 rfl (lv_at hl 1 rfl) ?_
        refine lv_aload_n hx hb dL_law_199 rfl (lv_at hl 0 rfl) ?_
        refine lv_iload_n hx hb dL_law_200 rfl (lv_at hl 3 rfl) ?_
        refine lv_iconst (v := 1) hx hb dL_law_201 (by decide) ?_
        refine lv_iadd hx hb dL_law_202 ?_
        refine va_sld hx hb hX hbl hbA hS (law_in hL hgo ek (show (1 : Int32) = nI 1 from rfl) (by omega)) dL_law_203 ?_
        refine lv_aload_n hx hb dL_law_204 rfl (lv_at hl 0 rfl) ?_
        refine lv_iload_n hx hb dL_law_205 rfl (lv_at hl 3 rfl) ?_
        refine lv_iconst (v := 2) hx hb dL_law_206 (by decide) ?_
        refine lv_iadd hx hb dL_law_207 ?_
        refine va_sld hx hb hX hbl hbA hS (law_in hL hgo ek (show (2 : Int32) = nI 2 from rfl) (by omega)) dL_law_208 ?_
        refine callWE (As := [.int (xs (xk + 1).toNatClampNeg), .int (xs (xk + 2).toNatClampNeg)]) (rest := []) ⟨hx, hb, hml, hown, htsL⟩ (c_X5_freeze hdC X (xs (xk + 1).toNatClampNeg) (xs (xk + 2).toNatClampNeg)) (cwV 2 htsL gL_law_X5_freeze rfl rfl rfl (by decide +kernel) ⟨Nat.le_of_ble_eq_true rfl, Nat.le_of_ble_eq_true rfl⟩) hK hN hPC 233 g0_233 rfl rfl hl.1 rfl (Nat.le_of_ble_eq_true rfl) dL_law_209 ⟨Nat.le_of_ble_eq_true rfl, Nat.le_of_ble_eq_true rfl⟩ hS hAC (fun H locs hPC hS _ hk1 => ?_)
        have hPM := keepP hPM hk1 (wM_no hdM hdis)
        refine lv_aload_n hx hb dL_law_212 rfl (lv_at hl 2 rfl) ?_
        refine lv_aload_n hx hb dL_law_213 rfl (lv_at hl 0 rfl) ?_
        refine lv_iload_n hx hb dL_law_214 rfl (lv_at hl 3 rfl) ?_
        refine lv_iconst (v := 1) hx hb dL_law_215 (by decide) ?_
        refine lv_iadd hx hb dL_law_216 ?_
        refine va_sld hx hb hX hbl hbA hS (law_in hL hgo ek (show (1 : Int32) = nI 1 from rfl) (by omega)) dL_law_217 ?_
        refine lv_aload_n hx hb dL_law_218 rfl (lv_at hl 0 rfl) ?_
        refine lv_iload_n hx hb dL_law_219 rfl (lv_at hl 3 rfl) ?_
        refine lv_iconst (v := 2) hx hb dL_law_220 (by decide) ?_
        refine lv_iadd hx hb dL_law_221 ?_
        refine va_sld hx hb hX hbl hbA hS (law_in hL hgo ek (show (2 : Int32) = nI 2 from rfl) (by omega)) dL_law_222 ?_
        refine callWE (As := [.int (xs (xk + 1).toNatClampNeg), .int (xs (xk + 2).toNatClampNeg)]) ⟨hx, hb, hml, hown, htsL⟩ (c_X6_freeze hdM Y n hn hd hok (xs (xk + 1).toNatClampNeg) (xs (xk + 2).toNatClampNeg)) (cwV 2 htsL gL_law_X6_freeze rfl rfl rfl (by decide +kernel) ⟨Nat.le_of_ble_eq_true rfl, Nat.le_of_ble_eq_true rfl⟩) hK hN hPM 0 rfl rfl rfl hl.1 rfl (Nat.le_of_ble_eq_true rfl) dL_law_223 ⟨Nat.le_of_ble_eq_true rfl, Nat.le_of_ble_eq_true rfl⟩ hS hAM (fun H locs hPM hS _ hk2 => ?_)
        have hPC := keepP hPC hk2 (wC_no hdis)
        obtain ⟨hR, hV⟩ := st_freeze (h := (xs (xk + 1).toNatClampNeg)) (w := (xs (xk + 2).toNatClampNeg)) ht v hn hd
        refine lv_icmp_eq (tgt := 725) hx hb dL_law_226 (by decide) (fun _ => ?_) (fun c9 => absurd hV c9)
        exact hnext _ _ H locs hR hPC hPM hS ls hl
      by_cases s_3 : (xs xk.toNatClampNeg) &&& 31 = 3
      · refine lv_tableIn (off := 199) (tgt := 231) hx hb dL_law_32 (by rw [s_3]; decide) (by rw [s_3]; decide) (by rw [s_3]; rfl) (by decide) ?_
        refine lv_aload_n hx hb dL_law_231 rfl (lv_at hl 1 rfl) ?_
        refine lv_aload_n hx hb dL_law_232 rfl (lv_at hl 0 rfl) ?_
        refine lv_iload_n hx hb dL_law_233 rfl (lv_at hl 3 rfl) ?_
        refine lv_iconst (v := 1) hx hb dL_law_234 (by decide) ?_
        refine lv_iadd hx hb dL_law_235 ?_
        refine va_sld hx hb hX hbl hbA hS (law_in hL hgo ek (show (1 : Int32) = nI 1 from rfl) (by omega)) dL_law_236 ?_
        refine lv_aload_n hx hb dL_law_237 rfl (lv_at hl 0 rfl) ?_
        refine lv_iload_n hx hb dL_law_238 rfl (lv_at hl 3 rfl) ?_
        refine lv_iconst (v := 2) hx hb dL_law_239 (by decide) ?_
        refine lv_iadd hx hb dL_law_240 ?_
        refine va_sld hx hb hX hbl hbA hS (law_in hL hgo ek (show (2 : Int32) = nI 2 from rfl) (by omega)) dL_law_241 ?_
        refine callWE (As := [.int (xs (xk + 1).toNatClampNeg), .int (xs (xk + 2).toNatClampNeg)]) (rest := []) ⟨hx, hb, hml, hown, htsL⟩ (c_X5_setShare hdC X (xs (xk + 1).toNatClampNeg) (xs (xk + 2).toNatClampNeg)) (cwV 2 htsL gL_law_X5_setShare rfl rfl rfl (by decide +kernel) ⟨Nat.le_of_ble_eq_true rfl, Nat.le_of_ble_eq_true rfl⟩) hK hN hPC 233 g0_233 rfl rfl hl.1 rfl (Nat.le_of_ble_eq_true rfl) dL_law_242 ⟨Nat.le_of_ble_eq_true rfl, Nat.le_of_ble_eq_true rfl⟩ hS hAC (fun H locs hPC hS _ hk1 => ?_)
        have hPM := keepP hPM hk1 (wM_no hdM hdis)
        refine lv_aload_n hx hb dL_law_245 rfl (lv_at hl 2 rfl) ?_
        refine lv_aload_n hx hb dL_law_246 rfl (lv_at hl 0 rfl) ?_
        refine lv_iload_n hx hb dL_law_247 rfl (lv_at hl 3 rfl) ?_
        refine lv_iconst (v := 1) hx hb dL_law_248 (by decide) ?_
        refine lv_iadd hx hb dL_law_249 ?_
        refine va_sld hx hb hX hbl hbA hS (law_in hL hgo ek (show (1 : Int32) = nI 1 from rfl) (by omega)) dL_law_250 ?_
        refine lv_aload_n hx hb dL_law_251 rfl (lv_at hl 0 rfl) ?_
        refine lv_iload_n hx hb dL_law_252 rfl (lv_at hl 3 rfl) ?_
        refine lv_iconst (v := 2) hx hb dL_law_253 (by decide) ?_
        refine lv_iadd hx hb dL_law_254 ?_
        refine va_sld hx hb hX hbl hbA hS (law_in hL hgo ek (show (2 : Int32) = nI 2 from rfl) (by omega)) dL_law_255 ?_
        refine callWE (As := [.int (xs (xk + 1).toNatClampNeg), .int (xs (xk + 2).toNatClampNeg)]) ⟨hx, hb, hml, hown, htsL⟩ (c_X6_setShare hdM Y n hn hd hok (xs (xk + 1).toNatClampNeg) (xs (xk + 2).toNatClampNeg)) (cwV 2 htsL gL_law_X6_setShare rfl rfl rfl (by decide +kernel) ⟨Nat.le_of_ble_eq_true rfl, Nat.le_of_ble_eq_true rfl⟩) hK hN hPM 0 rfl rfl rfl hl.1 rfl (Nat.le_of_ble_eq_true rfl) dL_law_256 ⟨Nat.le_of_ble_eq_true rfl, Nat.le_of_ble_eq_true rfl⟩ hS hAM (fun H locs hPM hS _ hk2 => ?_)
        have hPC := keepP hPC hk2 (wC_no hdis)
        obtain ⟨hR, hV⟩ := st_share (h := (xs (xk + 1).toNatClampNeg)) (w := (xs (xk + 2).toNatClampNeg)) ht v hn hd
        refine lv_icmp_eq (tgt := 725) hx hb dL_law_259 (by decide) (fun _ => ?_) (fun c9 => absurd hV c9)
        exact hnext _ _ H locs hR hPC hPM hS ls hl
      by_cases s_4 : (xs xk.toNatClampNeg) &&& 31 = 4
      · refine lv_tableIn (off := 232) (tgt := 264) hx hb dL_law_32 (by rw [s_4]; decide) (by rw [s_4]; decide) (by rw [s_4]; rfl) (by decide) ?_
        refine lv_aload_n hx hb dL_law_264 rfl (lv_at hl 1 rfl) ?_
        refine lv_aload_n hx hb dL_law_265 rfl (lv_at hl 0 rfl) ?_
        refine lv_iload_n hx hb dL_law_266 rfl (lv_at hl 3 rfl) ?_
        refine lv_iconst (v := 1) hx hb dL_law_267 (by decide) ?_
        refine lv_iadd hx hb dL_law_268 ?_
        refine va_sld hx hb hX hbl hbA hS (law_in hL hgo ek (show (1 : Int32) = nI 1 from rfl) (by omega)) dL_law_269 ?_
        refine callWE (As := [.int (xs (xk + 1).toNatClampNeg)]) (rest := []) ⟨hx, hb, hml, hown, htsL⟩ (c_X5_setCarried hdC X (xs (xk + 1).toNatClampNeg)) (cwV 1 htsL gL_law_X5_setCarried rfl rfl rfl (by decide +kernel) ⟨Nat.le_of_ble_eq_true rfl, Nat.le_of_ble_eq_true rfl⟩) hK hN hPC 233 g0_233 rfl rfl hl.1 rfl (Nat.le_of_ble_eq_true rfl) dL_law_270 ⟨Nat.le_of_ble_eq_true rfl, Nat.le_of_ble_eq_true rfl⟩ hS hAC (fun H locs hPC hS _ hk1 => ?_)
        have hPM := keepP hPM hk1 (wM_no hdM hdis)
        refine lv_aload_n hx hb dL_law_273 rfl (lv_at hl 2 rfl) ?_
        refine lv_aload_n hx hb dL_law_274 rfl (lv_at hl 0 rfl) ?_
        refine lv_iload_n hx hb dL_law_275 rfl (lv_at hl 3 rfl) ?_
        refine lv_iconst (v := 1) hx hb dL_law_276 (by decide) ?_
        refine lv_iadd hx hb dL_law_277 ?_
        refine va_sld hx hb hX hbl hbA hS (law_in hL hgo ek (show (1 : Int32) = nI 1 from rfl) (by omega)) dL_law_278 ?_
        refine callWE (As := [.int (xs (xk + 1).toNatClampNeg)]) ⟨hx, hb, hml, hown, htsL⟩ (c_X6_setCarried hdM Y n hn hd hok (xs (xk + 1).toNatClampNeg)) (cwV 1 htsL gL_law_X6_setCarried rfl rfl rfl (by decide +kernel) ⟨Nat.le_of_ble_eq_true rfl, Nat.le_of_ble_eq_true rfl⟩) hK hN hPM 0 rfl rfl rfl hl.1 rfl (Nat.le_of_ble_eq_true rfl) dL_law_279 ⟨Nat.le_of_ble_eq_true rfl, Nat.le_of_ble_eq_true rfl⟩ hS hAM (fun H locs hPM hS _ hk2 => ?_)
        have hPC := keepP hPC hk2 (wC_no hdis)
        obtain ⟨hR, hV⟩ := st_carried (w := (xs (xk + 1).toNatClampNeg)) ht v hn hd
        refine lv_icmp_eq (tgt := 725) hx hb dL_law_282 (by decide) (fun _ => ?_) (fun c9 => absurd hV c9)
        exact hnext _ _ H locs hR hPC hPM hS ls hl
      by_cases s_5 : (xs xk.toNatClampNeg) &&& 31 = 5
      · refine lv_tableIn (off := 255) (tgt := 287) hx hb dL_law_32 (by rw [s_5]; decide) (by rw [s_5]; decide) (by rw [s_5]; rfl) (by decide) ?_
        refine lv_aload_n hx hb dL_law_287 rfl (lv_at hl 1 rfl) ?_
        refine lv_aload_n hx hb dL_law_288 rfl (lv_at hl 0 rfl) ?_
        refine lv_iload_n hx hb dL_law_289 rfl (lv_at hl 3 rfl) ?_
        refine lv_iconst (v := 1) hx hb dL_law_290 (by decide) ?_
        refine lv_iadd hx hb dL_law_291 ?_
        refine va_sld hx hb hX hbl hbA hS (law_in hL hgo ek (show (1 : Int32) = nI 1 from rfl) (by omega)) dL_law_292 ?_
        refine lv_aload_n hx hb dL_law_293 rfl (lv_at hl 0 rfl) ?_
        refine lv_iload_n hx hb dL_law_294 rfl (lv_at hl 3 rfl) ?_
        refine lv_iconst (v := 2) hx hb dL_law_295 (by decide) ?_
        refine lv_iadd hx hb dL_law_296 ?_
        refine va_sld hx hb hX hbl hbA hS (law_in hL hgo ek (show (2 : Int32) = nI 2 from rfl) (by omega)) dL_law_297 ?_
        refine callWE (As := [.int (xs (xk + 1).toNatClampNeg), .int (xs (xk + 2).toNatClampNeg)]) (rest := []) ⟨hx, hb, hml, hown, htsL⟩ (c_X5_commit hdC X (xs (xk + 1).toNatClampNeg) (xs (xk + 2).toNatClampNeg)) (cwV 2 htsL gL_law_X5_commit rfl rfl rfl (by decide +kernel) ⟨Nat.le_of_ble_eq_true rfl, Nat.le_of_ble_eq_true rfl⟩) hK hN hPC 233 g0_233 rfl rfl hl.1 rfl (Nat.le_of_ble_eq_true rfl) dL_law_298 ⟨Nat.le_of_ble_eq_true rfl, Nat.le_of_ble_eq_true rfl⟩ hS hAC (fun H locs hPC hS _ hk1 => ?_)
        have hPM := keepP hPM hk1 (wM_no hdM hdis)
        refine lv_aload_n hx hb dL_law_301 rfl (lv_at hl 2 rfl) ?_
        refine lv_aload_n hx hb dL_law_302 rfl (lv_at hl 0 rfl) ?_
        refine lv_iload_n hx hb dL_law_303 rfl (lv_at hl 3 rfl) ?_
        refine lv_iconst (v := 1) hx hb dL_law_304 (by decide) ?_
        refine lv_iadd hx hb dL_law_305 ?_
        refine va_sld hx hb hX hbl hbA hS (law_in hL hgo ek (show (1 : Int32) = nI 1 from rfl) (by omega)) dL_law_306 ?_
        refine lv_aload_n hx hb dL_law_307 rfl (lv_at hl 0 rfl) ?_
        refine lv_iload_n hx hb dL_law_308 rfl (lv_at hl 3 rfl) ?_
        refine lv_iconst (v := 2) hx hb dL_law_309 (by decide) ?_
        refine lv_iadd hx hb dL_law_310 ?_
        refine va_sld hx hb hX hbl hbA hS (law_in hL hgo ek (show (2 : Int32) = nI 2 from rfl) (by omega)) dL_law_311 ?_
        refine callWE (As := [.int (xs (xk + 1).toNatClampNeg), .int (xs (xk + 2).toNatClampNeg)]) ⟨hx, hb, hml, hown, htsL⟩ (c_X6_commit hdM Y n hn hd hok (xs (xk + 1).toNatClampNeg) (xs (xk + 2).toNatClampNeg)) (cwV 2 htsL gL_law_X6_commit rfl rfl rfl (by decide +kernel) ⟨Nat.le_of_ble_eq_true rfl, Nat.le_of_ble_eq_true rfl⟩) hK hN hPM 0 rfl rfl rfl hl.1 rfl (Nat.le_of_ble_eq_true rfl) dL_law_312 ⟨Nat.le_of_ble_eq_true rfl, Nat.le_of_ble_eq_true rfl⟩ hS hAM (fun H locs hPM hS _ hk2 => ?_)
        have hPC := keepP hPC hk2 (wC_no hdis)
        obtain ⟨hR, hV⟩ := st_commit (h := (xs (xk + 1).toNatClampNeg)) (a := (xs (xk + 2).toNatClampNeg)) ht v hn hd
        refine lv_icmp_eq (tgt := 725) hx hb dL_law_315 (by decide) (fun _ => ?_) (fun c9 => absurd hV c9)
        exact hnext _ _ H locs hR hPC hPM hS ls hl
      by_cases s_6 : (xs xk.toNatClampNeg) &&& 31 = 6
      · refine lv_tableIn (off := 288) (tgt := 320) hx hb dL_law_32 (by rw [s_6]; decide) (by rw [s_6]; decide) (by rw [s_6]; rfl) (by decide) ?_
        refine lv_aload_n hx hb dL_law_320 rfl (lv_at hl 1 rfl) ?_
        refine lv_aload_n hx hb dL_law_321 rfl (lv_at hl 0 rfl) ?_
        refine lv_iload_n hx hb dL_law_322 rfl (lv_at hl 3 rfl) ?_
        refine lv_iconst (v := 1) hx hb dL_law_323 (by decide) ?_
        refine lv_iadd hx hb dL_law_324 ?_
        refine va_sld hx hb hX hbl hbA hS (law_in hL hgo ek (show (1 : Int32) = nI 1 from rfl) (by omega)) dL_law_325 ?_
        refine lv_aload_n hx hb dL_law_326 rfl (lv_at hl 0 rfl) ?_
        refine lv_iload_n hx hb dL_law_327 rfl (lv_at hl 3 rfl) ?_
        refine lv_iconst (v := 2) hx hb dL_law_328 (by decide) ?_
        refine lv_iadd hx hb dL_law_329 ?_
        refine va_sld hx hb hX hbl hbA hS (law_in hL hgo ek (show (2 : Int32) = nI 2 from rfl) (by omega)) dL_law_330 ?_
        refine callWE (As := [.int (xs (xk + 1).toNatClampNeg), .int (xs (xk + 2).toNatClampNeg)]) (rest := []) ⟨hx, hb, hml, hown, htsL⟩ (c_X5_pay hdC X (xs (xk + 1).toNatClampNeg) (xs (xk + 2).toNatClampNeg)) (cwV 2 htsL gL_law_X5_pay rfl rfl rfl (by decide +kernel) ⟨Nat.le_of_ble_eq_true rfl, Nat.le_of_ble_eq_true rfl⟩) hK hN hPC 233 g0_233 rfl rfl hl.1 rfl (Nat.le_of_ble_eq_true rfl) dL_law_331 ⟨Nat.le_of_ble_eq_true rfl, Nat.le_of_ble_eq_true rfl⟩ hS hAC (fun H locs hPC hS _ hk1 => ?_)
        have hPM := keepP hPM hk1 (wM_no hdM hdis)
        refine lv_aload_n hx hb dL_law_334 rfl (lv_at hl 2 rfl) ?_
        refine lv_aload_n hx hb dL_law_335 rfl (lv_at hl 0 rfl) ?_
        refine lv_iload_n hx hb dL_law_336 rfl (lv_at hl 3 rfl) ?_
        refine lv_iconst (v := 1) hx hb dL_law_337 (by decide) ?_
        refine lv_iadd hx hb dL_law_338 ?_
        refine va_sld hx hb hX hbl hbA hS (law_in hL hgo ek (show (1 : Int32) = nI 1 from rfl) (by omega)) dL_law_339 ?_
        refine lv_aload_n hx hb dL_law_340 rfl (lv_at hl 0 rfl) ?_
        refine lv_iload_n hx hb dL_law_341 rfl (lv_at hl 3 rfl) ?_
        refine lv_iconst (v := 2) hx hb dL_law_342 (by decide) ?_
        refine lv_iadd hx hb dL_law_343 ?_
        refine va_sld hx hb hX hbl hbA hS (law_in hL hgo ek (show (2 : Int32) = nI 2 from rfl) (by omega)) dL_law_344 ?_
        refine callWE (As := [.int (xs (xk + 1).toNatClampNeg), .int (xs (xk + 2).toNatClampNeg)]) ⟨hx, hb, hml, hown, htsL⟩ (c_X6_pay hdM Y n hn hd hok (xs (xk + 1).toNatClampNeg) (xs (xk + 2).toNatClampNeg)) (cwV 2 htsL gL_law_X6_pay rfl rfl rfl (by decide +kernel) ⟨Nat.le_of_ble_eq_true rfl, Nat.le_of_ble_eq_true rfl⟩) hK hN hPM 0 rfl rfl rfl hl.1 rfl (Nat.le_of_ble_eq_true rfl) dL_law_345 ⟨Nat.le_of_ble_eq_true rfl, Nat.le_of_ble_eq_true rfl⟩ hS hAM (fun H locs hPM hS _ hk2 => ?_)
        have hPC := keepP hPC hk2 (wC_no hdis)
        obtain ⟨hR, hV⟩ := st_pay (h := (xs (xk + 1).toNatClampNeg)) (a := (xs (xk + 2).toNatClampNeg)) ht v hn hd
        refine lv_icmp_eq (tgt := 725) hx hb dL_law_348 (by decide) (fun _ => ?_) (fun c9 => absurd hV c9)
        exact hnext _ _ H locs hR hPC hPM hS ls hl
      by_cases s_7 : (xs xk.toNatClampNeg) &&& 31 = 7
      · refine lv_tableIn (off := 321) (tgt := 353) hx hb dL_law_32 (by rw [s_7]; decide) (by rw [s_7]; decide) (by rw [s_7]; rfl) (by decide) ?_
        refine lv_aload_n hx hb dL_law_353 rfl (lv_at hl 1 rfl) ?_
        refine lv_aload_n hx hb dL_law_354 rfl (lv_at hl 0 rfl) ?_
        refine lv_iload_n hx hb dL_law_355 rfl (lv_at hl 3 rfl) ?_
        refine lv_iconst (v := 1) hx hb dL_law_356 (by decide) ?_
        refine lv_iadd hx hb dL_law_357 ?_
        refine va_sld hx hb hX hbl hbA hS (law_in hL hgo ek (show (1 : Int32) = nI 1 from rfl) (by omega)) dL_law_358 ?_
        refine callWE (As := [.int (xs (xk + 1).toNatClampNeg)]) (rest := []) ⟨hx, hb, hml, hown, htsL⟩ (c_X5_release hdC X (xs (xk + 1).toNatClampNeg)) (cwV 1 htsL gL_law_X5_release rfl rfl rfl (by decide +kernel) ⟨Nat.le_of_ble_eq_true rfl, Nat.le_of_ble_eq_true rfl⟩) hK hN hPC 233 g0_233 rfl rfl hl.1 rfl (Nat.le_of_ble_eq_true rfl) dL_law_359 ⟨Nat.le_of_ble_eq_true rfl, Nat.le_of_ble_eq_true rfl⟩ hS hAC (fun H locs hPC hS _ hk1 => ?_)
        have hPM := keepP hPM hk1 (wM_no hdM hdis)
        refine lv_aload_n hx hb dL_law_362 rfl (lv_at hl 2 rfl) ?_
        refine lv_aload_n hx hb dL_law_363 rfl (lv_at hl 0 rfl) ?_
        refine lv_iload_n hx hb dL_law_364 rfl (lv_at hl 3 rfl) ?_
        refine lv_iconst (v := 1) hx hb dL_law_365 (by decide) ?_
        refine lv_iadd hx hb dL_law_366 ?_
        refine va_sld hx hb hX hbl hbA hS (law_in hL hgo ek (show (1 : Int32) = nI 1 from rfl) (by omega)) dL_law_367 ?_
        refine callWE (As := [.int (xs (xk + 1).toNatClampNeg)]) ⟨hx, hb, hml, hown, htsL⟩ (c_X6_release hdM Y n hn hd hok (xs (xk + 1).toNatClampNeg)) (cwV 1 htsL gL_law_X6_release rfl rfl rfl (by decide +kernel) ⟨Nat.le_of_ble_eq_true rfl, Nat.le_of_ble_eq_true rfl⟩) hK hN hPM 0 rfl rfl rfl hl.1 rfl (Nat.le_of_ble_eq_true rfl) dL_law_368 ⟨Nat.le_of_ble_eq_true rfl, Nat.le_of_ble_eq_true rfl⟩ hS hAM (fun H locs hPM hS _ hk2 => ?_)
        have hPC := keepP hPC hk2 (wC_no hdis)
        obtain ⟨hR, hV⟩ := st_release (h := (xs (xk + 1).toNatClampNeg)) ht v hn hd
        refine lv_icmp_eq (tgt := 725) hx hb dL_law_371 (by decide) (fun _ => ?_) (fun c9 => absurd hV c9)
        exact hnext _ _ H locs hR hPC hPM hS ls hl
      by_cases s_8 : (xs xk.toNatClampNeg) &&& 31 = 8
      · refine lv_tableIn (off := 344) (tgt := 376) hx hb dL_law_32 (by rw [s_8]; decide) (by rw [s_8]; decide) (by rw [s_8]; rfl) (by decide) ?_
        refine lv_aload_n hx hb dL_law_376 rfl (lv_at hl 1 rfl) ?_
        refine lv_aload_n hx hb dL_law_377 rfl (lv_at hl 0 rfl) ?_
        refine lv_iload_n hx hb dL_law_378 rfl (lv_at hl 3 rfl) ?_
        refine lv_iconst (v := 1) hx hb dL_law_379 (by decide) ?_
        refine lv_iadd hx hb dL_law_380 ?_
        refine va_sld hx hb hX hbl hbA hS (law_in hL hgo ek (show (1 : Int32) = nI 1 from rfl) (by omega)) dL_law_381 ?_
        refine lv_aload_n hx hb dL_law_382 rfl (lv_at hl 0 rfl) ?_
        refine lv_iload_n hx hb dL_law_383 rfl (lv_at hl 3 rfl) ?_
        refine lv_iconst (v := 2) hx hb dL_law_384 (by decide) ?_
        refine lv_iadd hx hb dL_law_385 ?_
        refine va_sld hx hb hX hbl hbA hS (law_in hL hgo ek (show (2 : Int32) = nI 2 from rfl) (by omega)) dL_law_386 ?_
        refine lv_aload_n hx hb dL_law_387 rfl (lv_at hl 0 rfl) ?_
        refine lv_iload_n hx hb dL_law_388 rfl (lv_at hl 3 rfl) ?_
        refine lv_iconst (v := 3) hx hb dL_law_389 (by decide) ?_
        refine lv_iadd hx hb dL_law_390 ?_
        refine va_sld hx hb hX hbl hbA hS (law_in hL hgo ek (show (3 : Int32) = nI 3 from rfl) (by omega)) dL_law_391 ?_
        refine callWE (As := [.int (xs (xk + 1).toNatClampNeg), .int (xs (xk + 2).toNatClampNeg), .int (xs (xk + 3).toNatClampNeg)]) (rest := []) ⟨hx, hb, hml, hown, htsL⟩ (c_X5_vire hdC X (xs (xk + 1).toNatClampNeg) (xs (xk + 2).toNatClampNeg) (xs (xk + 3).toNatClampNeg)) (cwV 3 htsL gL_law_X5_vire rfl rfl rfl (by decide +kernel) ⟨Nat.le_of_ble_eq_true rfl, Nat.le_of_ble_eq_true rfl⟩) hK hN hPC 233 g0_233 rfl rfl hl.1 rfl (Nat.le_of_ble_eq_true rfl) dL_law_392 ⟨Nat.le_of_ble_eq_true rfl, Nat.le_of_ble_eq_true rfl⟩ hS hAC (fun H locs hPC hS _ hk1 => ?_)
        have hPM := keepP hPM hk1 (wM_no hdM hdis)
        refine lv_aload_n hx hb dL_law_395 rfl (lv_at hl 2 rfl) ?_
        refine lv_aload_n hx hb dL_law_396 rfl (lv_at hl 0 rfl) ?_
        refine lv_iload_n hx hb dL_law_397 rfl (lv_at hl 3 rfl) ?_
        refine lv_iconst (v := 1) hx hb dL_law_398 (by decide) ?_
        refine lv_iadd hx hb dL_law_399 ?_
        refine va_sld hx hb hX hbl hbA hS (law_in hL hgo ek (show (1 : Int32) = nI 1 from rfl) (by omega)) dL_law_400 ?_
        refine lv_aload_n hx hb dL_law_401 rfl (lv_at hl 0 rfl) ?_
        refine lv_iload_n hx hb dL_law_402 rfl (lv_at hl 3 rfl) ?_
        refine lv_iconst (v := 2) hx hb dL_law_403 (by decide) ?_
        refine lv_iadd hx hb dL_law_404 ?_
        refine va_sld hx hb hX hbl hbA hS (law_in hL hgo ek (show (2 : Int32) = nI 2 from rfl) (by omega)) dL_law_405 ?_
        refine lv_aload_n hx hb dL_law_406 rfl (lv_at hl 0 rfl) ?_
        refine lv_iload_n hx hb dL_law_407 rfl (lv_at hl 3 rfl) ?_
        refine lv_iconst (v := 3) hx hb dL_law_408 (by decide) ?_
        refine lv_iadd hx hb dL_law_409 ?_
        refine va_sld hx hb hX hbl hbA hS (law_in hL hgo ek (show (3 : Int32) = nI 3 from rfl) (by omega)) dL_law_410 ?_
        refine callWE (As := [.int (xs (xk + 1).toNatClampNeg), .int (xs (xk + 2).toNatClampNeg), .int (xs (xk + 3).toNatClampNeg)]) ⟨hx, hb, hml, hown, htsL⟩ (c_X6_vire hdM Y n hn hd hok (xs (xk + 1).toNatClampNeg) (xs (xk + 2).toNatClampNeg) (xs (xk + 3).toNatClampNeg)) (cwV 3 htsL gL_law_X6_vire rfl rfl rfl (by decide +kernel) ⟨Nat.le_of_ble_eq_true rfl, Nat.le_of_ble_eq_true rfl⟩) hK hN hPM 0 rfl rfl rfl hl.1 rfl (Nat.le_of_ble_eq_true rfl) dL_law_411 ⟨Nat.le_of_ble_eq_true rfl, Nat.le_of_ble_eq_true rfl⟩ hS hAM (fun H locs hPM hS _ hk2 => ?_)
        have hPC := keepP hPC hk2 (wC_no hdis)
        obtain ⟨hR, hV⟩ := st_vire (f := (xs (xk + 1).toNatClampNeg)) (w := (xs (xk + 2).toNatClampNeg)) (a := (xs (xk + 3).toNatClampNeg)) ht v hn hd
        refine lv_icmp_eq (tgt := 725) hx hb dL_law_414 (by decide) (fun _ => ?_) (fun c9 => absurd hV c9)
        exact hnext _ _ H locs hR hPC hPM hS ls hl
      by_cases s_9 : (xs xk.toNatClampNeg) &&& 31 = 9
      · refine lv_tableIn (off := 387) (tgt := 419) hx hb dL_law_32 (by rw [s_9]; decide) (by rw [s_9]; decide) (by rw [s_9]; rfl) (by decide) ?_
        refine lv_aload_n hx hb dL_law_419 rfl (lv_at hl 1 rfl) ?_
        refine callWE (As := []) (rest := []) ⟨hx, hb, hml, hown, htsL⟩ (c_X5_endYear hdC X) (cwV 0 htsL gL_law_X5_endYear rfl rfl rfl (by decide +kernel) ⟨Nat.le_of_ble_eq_true rfl, Nat.le_of_ble_eq_true rfl⟩) hK hN hPC 233 g0_233 rfl rfl hl.1 rfl (Nat.le_of_ble_eq_true rfl) dL_law_420 ⟨Nat.le_of_ble_eq_true rfl, Nat.le_of_ble_eq_true rfl⟩ hS hAC (fun H locs hPC hS _ hk1 => ?_)
        have hPM := keepP hPM hk1 (wM_no hdM hdis)
        refine lv_aload_n hx hb dL_law_423 rfl (lv_at hl 2 rfl) ?_
        refine callWE (As := []) ⟨hx, hb, hml, hown, htsL⟩ (c_X6_endYear hdM Y n hn hd hok) (cwV 0 htsL gL_law_X6_endYear rfl rfl rfl (by decide +kernel) ⟨Nat.le_of_ble_eq_true rfl, Nat.le_of_ble_eq_true rfl⟩) hK hN hPM 0 rfl rfl rfl hl.1 rfl (Nat.le_of_ble_eq_true rfl) dL_law_424 ⟨Nat.le_of_ble_eq_true rfl, Nat.le_of_ble_eq_true rfl⟩ hS hAM (fun H locs hPM hS _ hk2 => ?_)
        have hPC := keepP hPC hk2 (wC_no hdis)
        obtain ⟨hR, hV⟩ := st_endYear ht v hn hd
        refine lv_icmp_eq (tgt := 725) hx hb dL_law_427 (by decide) (fun _ => ?_) (fun c9 => absurd hV c9)
        exact hnext _ _ H locs hR hPC hPM hS ls hl
      by_cases s_10 : (xs xk.toNatClampNeg) &&& 31 = 10
      · refine lv_tableIn (off := 400) (tgt := 432) hx hb dL_law_32 (by rw [s_10]; decide) (by rw [s_10]; decide) (by rw [s_10]; rfl) (by decide) ?_
        refine lv_aload_n hx hb dL_law_432 rfl (lv_at hl 1 rfl) ?_
        refine callWE (As := []) (rest := []) ⟨hx, hb, hml, hown, htsL⟩ (c_X5_undo hdC X) (cwV 0 htsL gL_law_X5_undo rfl rfl rfl (by decide +kernel) ⟨Nat.le_of_ble_eq_true rfl, Nat.le_of_ble_eq_true rfl⟩) hK hN hPC 233 g0_233 rfl rfl hl.1 rfl (Nat.le_of_ble_eq_true rfl) dL_law_433 ⟨Nat.le_of_ble_eq_true rfl, Nat.le_of_ble_eq_true rfl⟩ hS hAC (fun H locs hPC hS _ hk1 => ?_)
        have hPM := keepP hPM hk1 (wM_no hdM hdis)
        refine lv_aload_n hx hb dL_law_436 rfl (lv_at hl 2 rfl) ?_
        refine callWE (As := []) ⟨hx, hb, hml, hown, htsL⟩ (c_X6_undo hdM Y n hn hd) (cwV 0 htsL gL_law_X6_undo rfl rfl rfl (by decide +kernel) ⟨Nat.le_of_ble_eq_true rfl, Nat.le_of_ble_eq_true rfl⟩) hK hN hPM 0 rfl rfl rfl hl.1 rfl (Nat.le_of_ble_eq_true rfl) dL_law_437 ⟨Nat.le_of_ble_eq_true rfl, Nat.le_of_ble_eq_true rfl⟩ hS hAM (fun H locs hPM hS _ hk2 => ?_)
        have hPC := keepP hPC hk2 (wC_no hdis)
        obtain ⟨hR, hV⟩ := st_undo ht v hn hd
        refine lv_icmp_eq (tgt := 725) hx hb dL_law_440 (by decide) (fun _ => ?_) (fun c9 => absurd hV c9)
        exact hnext _ _ H locs hR hPC hPM hS ls hl
      by_cases s_11 : (xs xk.toNatClampNeg) &&& 31 = 11
      · refine lv_tableIn (off := 413) (tgt := 445) hx hb dL_law_32 (by rw [s_11]; decide) (by rw [s_11]; decide) (by rw [s_11]; rfl) (by decide) ?_
        refine lv_aload_n hx hb dL_law_445 rfl (lv_at hl 1 rfl) ?_
        refine lv_aload_n hx hb dL_law_446 rfl (lv_at hl 0 rfl) ?_
        refine lv_iload_n hx hb dL_law_447 rfl (lv_at hl 3 rfl) ?_
        refine lv_iconst (v := 1) hx hb dL_law_448 (by decide) ?_
        refine lv_iadd hx hb dL_law_449 ?_
        refine va_sld hx hb hX hbl hbA hS (law_in hL hgo ek (show (1 : Int32) = nI 1 from rfl) (by omega)) dL_law_450 ?_
        refine callWE (As := [.int (xs (xk + 1).toNatClampNeg)]) (rest := []) ⟨hx, hb, hml, hown, htsL⟩ (c_X5_revoke hdC X (xs (xk + 1).toNatClampNeg)) (cwV 1 htsL gL_law_X5_revoke rfl rfl rfl (by decide +kernel) ⟨Nat.le_of_ble_eq_true rfl, Nat.le_of_ble_eq_true rfl⟩) hK hN hPC 233 g0_233 rfl rfl hl.1 rfl (Nat.le_of_ble_eq_true rfl) dL_law_451 ⟨Nat.le_of_ble_eq_true rfl, Nat.le_of_ble_eq_true rfl⟩ hS hAC (fun H locs hPC hS _ hk1 => ?_)
        have hPM := keepP hPM hk1 (wM_no hdM hdis)
        refine lv_aload_n hx hb dL_law_454 rfl (lv_at hl 2 rfl) ?_
        refine lv_aload_n hx hb dL_law_455 rfl (lv_at hl 0 rfl) ?_
        refine lv_iload_n hx hb dL_law_456 rfl (lv_at hl 3 rfl) ?_
        refine lv_iconst (v := 1) hx hb dL_law_457 (by decide) ?_
        refine lv_iadd hx hb dL_law_458 ?_
        refine va_sld hx hb hX hbl hbA hS (law_in hL hgo ek (show (1 : Int32) = nI 1 from rfl) (by omega)) dL_law_459 ?_
        refine callWE (As := [.int (xs (xk + 1).toNatClampNeg)]) ⟨hx, hb, hml, hown, htsL⟩ (c_X6_revoke hdM Y n hn hd hok (xs (xk + 1).toNatClampNeg) (rel_hrv v hn hd)) (cwV 1 htsL gL_law_X6_revoke rfl rfl rfl (by decide +kernel) ⟨Nat.le_of_ble_eq_true rfl, Nat.le_of_ble_eq_true rfl⟩) hK hN hPM 0 rfl rfl rfl hl.1 rfl (Nat.le_of_ble_eq_true rfl) dL_law_460 ⟨Nat.le_of_ble_eq_true rfl, Nat.le_of_ble_eq_true rfl⟩ hS hAM (fun H locs hPM hS _ hk2 => ?_)
        have hPC := keepP hPC hk2 (wC_no hdis)
        obtain ⟨hR, hV⟩ := st_revoke (i := (xs (xk + 1).toNatClampNeg)) ht v hn hd
        refine lv_icmp_eq (tgt := 725) hx hb dL_law_463 (by decide) (fun _ => ?_) (fun c9 => absurd hV c9)
        exact hnext _ _ H locs hR hPC hPM hS ls hl
      by_cases s_12 : (xs xk.toNatClampNeg) &&& 31 = 12
      · refine lv_tableIn (off := 436) (tgt := 468) hx hb dL_law_32 (by rw [s_12]; decide) (by rw [s_12]; decide) (by rw [s_12]; rfl) (by decide) ?_
        refine lv_aload_n hx hb dL_law_468 rfl (lv_at hl 1 rfl) ?_
        refine lv_aload_n hx hb dL_law_469 rfl (lv_at hl 0 rfl) ?_
        refine lv_iload_n hx hb dL_law_470 rfl (lv_at hl 3 rfl) ?_
        refine lv_iconst (v := 1) hx hb dL_law_471 (by decide) ?_
        refine lv_iadd hx hb dL_law_472 ?_
        refine va_sld hx hb hX hbl hbA hS (law_in hL hgo ek (show (1 : Int32) = nI 1 from rfl) (by omega)) dL_law_473 ?_
        refine callE (As := [.int (xs (xk + 1).toNatClampNeg)]) (rest := []) ⟨hx, hb, hml, hown, htsL⟩ (c_X5_count X (xs (xk + 1).toNatClampNeg)) (cwV 1 htsL gL_law_X5_count rfl rfl rfl (by decide +kernel) ⟨Nat.le_of_ble_eq_true rfl, Nat.le_of_ble_eq_true rfl⟩) hK hN hPC 233 g0_233 rfl rfl hl.1 rfl (Nat.le_of_ble_eq_true rfl) dL_law_474 ⟨Nat.le_of_ble_eq_true rfl, Nat.le_of_ble_eq_true rfl⟩ ?_
        refine lv_aload_n hx hb dL_law_477 rfl (lv_at hl 2 rfl) ?_
        refine lv_aload_n hx hb dL_law_478 rfl (lv_at hl 0 rfl) ?_
        refine lv_iload_n hx hb dL_law_479 rfl (lv_at hl 3 rfl) ?_
        refine lv_iconst (v := 1) hx hb dL_law_480 (by decide) ?_
        refine lv_iadd hx hb dL_law_481 ?_
        refine va_sld hx hb hX hbl hbA hS (law_in hL hgo ek (show (1 : Int32) = nI 1 from rfl) (by omega)) dL_law_482 ?_
        refine callE (As := [.int (xs (xk + 1).toNatClampNeg)]) ⟨hx, hb, hml, hown, htsL⟩ (c_X6_count Y hok (xs (xk + 1).toNatClampNeg)) (cwV 1 htsL gL_law_X6_count rfl rfl rfl (by decide +kernel) ⟨Nat.le_of_ble_eq_true rfl, Nat.le_of_ble_eq_true rfl⟩) hK hN hPM 0 rfl rfl rfl hl.1 rfl (Nat.le_of_ble_eq_true rfl) dL_law_483 ⟨Nat.le_of_ble_eq_true rfl, Nat.le_of_ble_eq_true rfl⟩ ?_
        refine lv_icmp_eq (tgt := 725) hx hb dL_law_486 (by decide) (fun _ => ?_) (fun c9 => absurd (st_cnt v) c9)
        exact hnext _ _ H locs (rel_mono ht v) hPC hPM hS ls hl
      by_cases s_13 : (xs xk.toNatClampNeg) &&& 31 = 13
      · refine lv_tableIn (off := 459) (tgt := 491) hx hb dL_law_32 (by rw [s_13]; decide) (by rw [s_13]; decide) (by rw [s_13]; rfl) (by decide) ?_
        refine lv_aload_n hx hb dL_law_491 rfl (lv_at hl 1 rfl) ?_
        refine lv_aload_n hx hb dL_law_492 rfl (lv_at hl 0 rfl) ?_
        refine lv_iload_n hx hb dL_law_493 rfl (lv_at hl 3 rfl) ?_
        refine lv_iconst (v := 1) hx hb dL_law_494 (by decide) ?_
        refine lv_iadd hx hb dL_law_495 ?_
        refine va_sld hx hb hX hbl hbA hS (law_in hL hgo ek (show (1 : Int32) = nI 1 from rfl) (by omega)) dL_law_496 ?_
        refine lv_aload_n hx hb dL_law_497 rfl (lv_at hl 0 rfl) ?_
        refine lv_iload_n hx hb dL_law_498 rfl (lv_at hl 3 rfl) ?_
        refine lv_iconst (v := 2) hx hb dL_law_499 (by decide) ?_
        refine lv_iadd hx hb dL_law_500 ?_
        refine va_sld hx hb hX hbl hbA hS (law_in hL hgo ek (show (2 : Int32) = nI 2 from rfl) (by omega)) dL_law_501 ?_
        refine callE (As := [.int (xs (xk + 1).toNatClampNeg), .int (xs (xk + 2).toNatClampNeg)]) (rest := []) ⟨hx, hb, hml, hown, htsL⟩ (c_X5_head X (xs (xk + 1).toNatClampNeg) (xs (xk + 2).toNatClampNeg)) (cwV 2 htsL gL_law_X5_head rfl rfl rfl (by decide +kernel) ⟨Nat.le_of_ble_eq_true rfl, Nat.le_of_ble_eq_true rfl⟩) hK hN hPC 233 g0_233 rfl rfl hl.1 rfl (Nat.le_of_ble_eq_true rfl) dL_law_502 ⟨Nat.le_of_ble_eq_true rfl, Nat.le_of_ble_eq_true rfl⟩ ?_
        refine lv_aload_n hx hb dL_law_505 rfl (lv_at hl 2 rfl) ?_
        refine lv_aload_n hx hb dL_law_506 rfl (lv_at hl 0 rfl) ?_
        refine lv_iload_n hx hb dL_law_507 rfl (lv_at hl 3 rfl) ?_
        refine lv_iconst (v := 1) hx hb dL_law_508 (by decide) ?_
        refine lv_iadd hx hb dL_law_509 ?_
        refine va_sld hx hb hX hbl hbA hS (law_in hL hgo ek (show (1 : Int32) = nI 1 from rfl) (by omega)) dL_law_510 ?_
        refine lv_aload_n hx hb dL_law_511 rfl (lv_at hl 0 rfl) ?_
        refine lv_iload_n hx hb dL_law_512 rfl (lv_at hl 3 rfl) ?_
        refine lv_iconst (v := 2) hx hb dL_law_513 (by decide) ?_
        refine lv_iadd hx hb dL_law_514 ?_
        refine va_sld hx hb hX hbl hbA hS (law_in hL hgo ek (show (2 : Int32) = nI 2 from rfl) (by omega)) dL_law_515 ?_
        refine callE (As := [.int (xs (xk + 1).toNatClampNeg), .int (xs (xk + 2).toNatClampNeg)]) ⟨hx, hb, hml, hown, htsL⟩ (c_X6_head Y hok (xs (xk + 1).toNatClampNeg) (xs (xk + 2).toNatClampNeg)) (cwV 2 htsL gL_law_X6_head rfl rfl rfl (by decide +kernel) ⟨Nat.le_of_ble_eq_true rfl, Nat.le_of_ble_eq_true rfl⟩) hK hN hPM 0 rfl rfl rfl hl.1 rfl (Nat.le_of_ble_eq_true rfl) dL_law_516 ⟨Nat.le_of_ble_eq_true rfl, Nat.le_of_ble_eq_true rfl⟩ ?_
        refine lv_icmp_eq (tgt := 725) hx hb dL_law_519 (by decide) (fun _ => ?_) (fun c9 => absurd (by rw [(rel_ok v).2]) c9)
        exact hnext _ _ H locs (rel_mono ht v) hPC hPM hS ls hl
      by_cases s_14 : (xs xk.toNatClampNeg) &&& 31 = 14
      · refine lv_tableIn (off := 492) (tgt := 524) hx hb dL_law_32 (by rw [s_14]; decide) (by rw [s_14]; decide) (by rw [s_14]; rfl) (by decide) ?_
        refine lv_aload_n hx hb dL_law_524 rfl (lv_at hl 1 rfl) ?_
        refine lv_aload_n hx hb dL_law_525 rfl (lv_at hl 0 rfl) ?_
        refine lv_iload_n hx hb dL_law_526 rfl (lv_at hl 3 rfl) ?_
        refine lv_iconst (v := 1) hx hb dL_law_527 (by decide) ?_
        refine lv_iadd hx hb dL_law_528 ?_
        refine va_sld hx hb hX hbl hbA hS (law_in hL hgo ek (show (1 : Int32) = nI 1 from rfl) (by omega)) dL_law_529 ?_
        refine lv_aload_n hx hb dL_law_530 rfl (lv_at hl 0 rfl) ?_
        refine lv_iload_n hx hb dL_law_531 rfl (lv_at hl 3 rfl) ?_
        refine lv_iconst (v := 2) hx hb dL_law_532 (by decide) ?_
        refine lv_iadd hx hb dL_law_533 ?_
        refine va_sld hx hb hX hbl hbA hS (law_in hL hgo ek (show (2 : Int32) = nI 2 from rfl) (by omega)) dL_law_534 ?_
        refine callE (As := [.int (xs (xk + 1).toNatClampNeg), .int (xs (xk + 2).toNatClampNeg)]) (rest := []) ⟨hx, hb, hml, hown, htsL⟩ (c_X5_total X (xs (xk + 1).toNatClampNeg) (xs (xk + 2).toNatClampNeg)) (cwV 2 htsL gL_law_X5_total rfl rfl rfl (by decide +kernel) ⟨Nat.le_of_ble_eq_true rfl, Nat.le_of_ble_eq_true rfl⟩) hK hN hPC 233 g0_233 rfl rfl hl.1 rfl (Nat.le_of_ble_eq_true rfl) dL_law_535 ⟨Nat.le_of_ble_eq_true rfl, Nat.le_of_ble_eq_true rfl⟩ ?_
        refine lv_aload_n hx hb dL_law_538 rfl (lv_at hl 2 rfl) ?_
        refine lv_aload_n hx hb dL_law_539 rfl (lv_at hl 0 rfl) ?_
        refine lv_iload_n hx hb dL_law_540 rfl (lv_at hl 3 rfl) ?_
        refine lv_iconst (v := 1) hx hb dL_law_541 (by decide) ?_
        refine lv_iadd hx hb dL_law_542 ?_
        refine va_sld hx hb hX hbl hbA hS (law_in hL hgo ek (show (1 : Int32) = nI 1 from rfl) (by omega)) dL_law_543 ?_
        refine lv_aload_n hx hb dL_law_544 rfl (lv_at hl 0 rfl) ?_
        refine lv_iload_n hx hb dL_law_545 rfl (lv_at hl 3 rfl) ?_
        refine lv_iconst (v := 2) hx hb dL_law_546 (by decide) ?_
        refine lv_iadd hx hb dL_law_547 ?_
        refine va_sld hx hb hX hbl hbA hS (law_in hL hgo ek (show (2 : Int32) = nI 2 from rfl) (by omega)) dL_law_548 ?_
        refine callE (As := [.int (xs (xk + 1).toNatClampNeg), .int (xs (xk + 2).toNatClampNeg)]) ⟨hx, hb, hml, hown, htsL⟩ (c_X6_total Y hok (xs (xk + 1).toNatClampNeg) (xs (xk + 2).toNatClampNeg)) (cwV 2 htsL gL_law_X6_total rfl rfl rfl (by decide +kernel) ⟨Nat.le_of_ble_eq_true rfl, Nat.le_of_ble_eq_true rfl⟩) hK hN hPM 0 rfl rfl rfl hl.1 rfl (Nat.le_of_ble_eq_true rfl) dL_law_549 ⟨Nat.le_of_ble_eq_true rfl, Nat.le_of_ble_eq_true rfl⟩ ?_
        refine lv_icmp_eq (tgt := 725) hx hb dL_law_552 (by decide) (fun _ => ?_) (fun c9 => absurd (by rw [(rel_ok v).2]) c9)
        exact hnext _ _ H locs (rel_mono ht v) hPC hPM hS ls hl
      by_cases s_15 : (xs xk.toNatClampNeg) &&& 31 = 15
      · refine lv_tableIn (off := 525) (tgt := 557) hx hb dL_law_32 (by rw [s_15]; decide) (by rw [s_15]; decide) (by rw [s_15]; rfl) (by decide) ?_
        refine lv_aload_n hx hb dL_law_557 rfl (lv_at hl 1 rfl) ?_
        refine lv_aload_n hx hb dL_law_558 rfl (lv_at hl 0 rfl) ?_
        refine lv_iload_n hx hb dL_law_559 rfl (lv_at hl 3 rfl) ?_
        refine lv_iconst (v := 1) hx hb dL_law_560 (by decide) ?_
        refine lv_iadd hx hb dL_law_561 ?_
        refine va_sld hx hb hX hbl hbA hS (law_in hL hgo ek (show (1 : Int32) = nI 1 from rfl) (by omega)) dL_law_562 ?_
        refine lv_aload_n hx hb dL_law_563 rfl (lv_at hl 0 rfl) ?_
        refine lv_iload_n hx hb dL_law_564 rfl (lv_at hl 3 rfl) ?_
        refine lv_iconst (v := 2) hx hb dL_law_565 (by decide) ?_
        refine lv_iadd hx hb dL_law_566 ?_
        refine va_sld hx hb hX hbl hbA hS (law_in hL hgo ek (show (2 : Int32) = nI 2 from rfl) (by omega)) dL_law_567 ?_
        refine callE (As := [.int (xs (xk + 1).toNatClampNeg), .int (xs (xk + 2).toNatClampNeg)]) (rest := []) ⟨hx, hb, hml, hown, htsL⟩ (c_X5_commitment X (xs (xk + 1).toNatClampNeg) (xs (xk + 2).toNatClampNeg)) (cwV 2 htsL gL_law_X5_commitment rfl rfl rfl (by decide +kernel) ⟨Nat.le_of_ble_eq_true rfl, Nat.le_of_ble_eq_true rfl⟩) hK hN hPC 233 g0_233 rfl rfl hl.1 rfl (Nat.le_of_ble_eq_true rfl) dL_law_568 ⟨Nat.le_of_ble_eq_true rfl, Nat.le_of_ble_eq_true rfl⟩ ?_
        refine lv_aload_n hx hb dL_law_571 rfl (lv_at hl 2 rfl) ?_
        refine lv_aload_n hx hb dL_law_572 rfl (lv_at hl 0 rfl) ?_
        refine lv_iload_n hx hb dL_law_573 rfl (lv_at hl 3 rfl) ?_
        refine lv_iconst (v := 1) hx hb dL_law_574 (by decide) ?_
        refine lv_iadd hx hb dL_law_575 ?_
        refine va_sld hx hb hX hbl hbA hS (law_in hL hgo ek (show (1 : Int32) = nI 1 from rfl) (by omega)) dL_law_576 ?_
        refine lv_aload_n hx hb dL_law_577 rfl (lv_at hl 0 rfl) ?_
        refine lv_iload_n hx hb dL_law_578 rfl (lv_at hl 3 rfl) ?_
        refine lv_iconst (v := 2) hx hb dL_law_579 (by decide) ?_
        refine lv_iadd hx hb dL_law_580 ?_
        refine va_sld hx hb hX hbl hbA hS (law_in hL hgo ek (show (2 : Int32) = nI 2 from rfl) (by omega)) dL_law_581 ?_
        refine callE (As := [.int (xs (xk + 1).toNatClampNeg), .int (xs (xk + 2).toNatClampNeg)]) ⟨hx, hb, hml, hown, htsL⟩ (c_X6_commitment Y hok (xs (xk + 1).toNatClampNeg) (xs (xk + 2).toNatClampNeg)) (cwV 2 htsL gL_law_X6_commitment rfl rfl rfl (by decide +kernel) ⟨Nat.le_of_ble_eq_true rfl, Nat.le_of_ble_eq_true rfl⟩) hK hN hPM 0 rfl rfl rfl hl.1 rfl (Nat.le_of_ble_eq_true rfl) dL_law_582 ⟨Nat.le_of_ble_eq_true rfl, Nat.le_of_ble_eq_true rfl⟩ ?_
        refine lv_icmp_eq (tgt := 725) hx hb dL_law_585 (by decide) (fun _ => ?_) (fun c9 => absurd (by rw [(rel_ok v).2]) c9)
        exact hnext _ _ H locs (rel_mono ht v) hPC hPM hS ls hl
      by_cases s_16 : (xs xk.toNatClampNeg) &&& 31 = 16
      · refine lv_tableIn (off := 558) (tgt := 590) hx hb dL_law_32 (by rw [s_16]; decide) (by rw [s_16]; decide) (by rw [s_16]; rfl) (by decide) ?_
        refine lv_aload_n hx hb dL_law_590 rfl (lv_at hl 1 rfl) ?_
        refine lv_aload_n hx hb dL_law_591 rfl (lv_at hl 0 rfl) ?_
        refine lv_iload_n hx hb dL_law_592 rfl (lv_at hl 3 rfl) ?_
        refine lv_iconst (v := 1) hx hb dL_law_593 (by decide) ?_
        refine lv_iadd hx hb dL_law_594 ?_
        refine va_sld hx hb hX hbl hbA hS (law_in hL hgo ek (show (1 : Int32) = nI 1 from rfl) (by omega)) dL_law_595 ?_
        refine callE (As := [.int (xs (xk + 1).toNatClampNeg)]) (rest := []) ⟨hx, hb, hml, hown, htsL⟩ (c_X5_deed X (xs (xk + 1).toNatClampNeg)) (cwV 1 htsL gL_law_X5_deed rfl rfl rfl (by decide +kernel) ⟨Nat.le_of_ble_eq_true rfl, Nat.le_of_ble_eq_true rfl⟩) hK hN hPC 233 g0_233 rfl rfl hl.1 rfl (Nat.le_of_ble_eq_true rfl) dL_law_596 ⟨Nat.le_of_ble_eq_true rfl, Nat.le_of_ble_eq_true rfl⟩ ?_
        refine lv_aload_n hx hb dL_law_599 rfl (lv_at hl 2 rfl) ?_
        refine lv_aload_n hx hb dL_law_600 rfl (lv_at hl 0 rfl) ?_
        refine lv_iload_n hx hb dL_law_601 rfl (lv_at hl 3 rfl) ?_
        refine lv_iconst (v := 1) hx hb dL_law_602 (by decide) ?_
        refine lv_iadd hx hb dL_law_603 ?_
        refine va_sld hx hb hX hbl hbA hS (law_in hL hgo ek (show (1 : Int32) = nI 1 from rfl) (by omega)) dL_law_604 ?_
        refine callE (As := [.int (xs (xk + 1).toNatClampNeg)]) ⟨hx, hb, hml, hown, htsL⟩ (c_X6_deed Y (xs (xk + 1).toNatClampNeg) n hn hd) (cwV 1 htsL gL_law_X6_deed rfl rfl rfl (by decide +kernel) ⟨Nat.le_of_ble_eq_true rfl, Nat.le_of_ble_eq_true rfl⟩) hK hN hPM 0 rfl rfl rfl hl.1 rfl (Nat.le_of_ble_eq_true rfl) dL_law_605 ⟨Nat.le_of_ble_eq_true rfl, Nat.le_of_ble_eq_true rfl⟩ ?_
        refine lv_icmp_eq (tgt := 725) hx hb dL_law_608 (by decide) (fun _ => ?_) (fun c9 => absurd (st_deed v hn hd) c9)
        exact hnext _ _ H locs (rel_mono ht v) hPC hPM hS ls hl
      by_cases s_17 : (xs xk.toNatClampNeg) &&& 31 = 17
      · refine lv_tableIn (off := 581) (tgt := 613) hx hb dL_law_32 (by rw [s_17]; decide) (by rw [s_17]; decide) (by rw [s_17]; rfl) (by decide) ?_
        refine lv_aload_n hx hb dL_law_613 rfl (lv_at hl 1 rfl) ?_
        refine lv_aload_n hx hb dL_law_614 rfl (lv_at hl 0 rfl) ?_
        refine lv_iload_n hx hb dL_law_615 rfl (lv_at hl 3 rfl) ?_
        refine lv_iconst (v := 1) hx hb dL_law_616 (by decide) ?_
        refine lv_iadd hx hb dL_law_617 ?_
        refine va_sld hx hb hX hbl hbA hS (law_in hL hgo ek (show (1 : Int32) = nI 1 from rfl) (by omega)) dL_law_618 ?_
        refine lv_aload_n hx hb dL_law_619 rfl (lv_at hl 0 rfl) ?_
        refine lv_iload_n hx hb dL_law_620 rfl (lv_at hl 3 rfl) ?_
        refine lv_iconst (v := 2) hx hb dL_law_621 (by decide) ?_
        refine lv_iadd hx hb dL_law_622 ?_
        refine va_sld hx hb hX hbl hbA hS (law_in hL hgo ek (show (2 : Int32) = nI 2 from rfl) (by omega)) dL_law_623 ?_
        refine callE (As := [.int (xs (xk + 1).toNatClampNeg), .int (xs (xk + 2).toNatClampNeg)]) (rest := []) ⟨hx, hb, hml, hown, htsL⟩ (c_X5_mostFrom X (xs (xk + 1).toNatClampNeg) (xs (xk + 2).toNatClampNeg)) (cwV 2 htsL gL_law_X5_mostFrom rfl rfl rfl (by decide +kernel) ⟨Nat.le_of_ble_eq_true rfl, Nat.le_of_ble_eq_true rfl⟩) hK hN hPC 233 g0_233 rfl rfl hl.1 rfl (Nat.le_of_ble_eq_true rfl) dL_law_624 ⟨Nat.le_of_ble_eq_true rfl, Nat.le_of_ble_eq_true rfl⟩ ?_
        refine lv_aload_n hx hb dL_law_627 rfl (lv_at hl 2 rfl) ?_
        refine lv_aload_n hx hb dL_law_628 rfl (lv_at hl 0 rfl) ?_
        refine lv_iload_n hx hb dL_law_629 rfl (lv_at hl 3 rfl) ?_
        refine lv_iconst (v := 1) hx hb dL_law_630 (by decide) ?_
        refine lv_iadd hx hb dL_law_631 ?_
        refine va_sld hx hb hX hbl hbA hS (law_in hL hgo ek (show (1 : Int32) = nI 1 from rfl) (by omega)) dL_law_632 ?_
        refine lv_aload_n hx hb dL_law_633 rfl (lv_at hl 0 rfl) ?_
        refine lv_iload_n hx hb dL_law_634 rfl (lv_at hl 3 rfl) ?_
        refine lv_iconst (v := 2) hx hb dL_law_635 (by decide) ?_
        refine lv_iadd hx hb dL_law_636 ?_
        refine va_sld hx hb hX hbl hbA hS (law_in hL hgo ek (show (2 : Int32) = nI 2 from rfl) (by omega)) dL_law_637 ?_
        refine callE (As := [.int (xs (xk + 1).toNatClampNeg), .int (xs (xk + 2).toNatClampNeg)]) ⟨hx, hb, hml, hown, htsL⟩ (c_X6_mostFrom Y hok (xs (xk + 1).toNatClampNeg) (xs (xk + 2).toNatClampNeg)) (cwV 2 htsL gL_law_X6_mostFrom rfl rfl rfl (by decide +kernel) ⟨Nat.le_of_ble_eq_true rfl, Nat.le_of_ble_eq_true rfl⟩) hK hN hPM 0 rfl rfl rfl hl.1 rfl (Nat.le_of_ble_eq_true rfl) dL_law_638 ⟨Nat.le_of_ble_eq_true rfl, Nat.le_of_ble_eq_true rfl⟩ ?_
        refine lv_icmp_eq (tgt := 725) hx hb dL_law_641 (by decide) (fun _ => ?_) (fun c9 => absurd (by rw [(rel_ok v).2]) c9)
        exact hnext _ _ H locs (rel_mono ht v) hPC hPM hS ls hl
      by_cases s_18 : (xs xk.toNatClampNeg) &&& 31 = 18
      · refine lv_tableIn (off := 614) (tgt := 646) hx hb dL_law_32 (by rw [s_18]; decide) (by rw [s_18]; decide) (by rw [s_18]; rfl) (by decide) ?_
        refine lv_aload_n hx hb dL_law_646 rfl (lv_at hl 1 rfl) ?_
        refine lv_aload_n hx hb dL_law_647 rfl (lv_at hl 0 rfl) ?_
        refine lv_iload_n hx hb dL_law_648 rfl (lv_at hl 3 rfl) ?_
        refine lv_iconst (v := 1) hx hb dL_law_649 (by decide) ?_
        refine lv_iadd hx hb dL_law_650 ?_
        refine va_sld hx hb hX hbl hbA hS (law_in hL hgo ek (show (1 : Int32) = nI 1 from rfl) (by omega)) dL_law_651 ?_
        refine callE (As := [.int (xs (xk + 1).toNatClampNeg)]) (rest := []) ⟨hx, hb, hml, hown, htsL⟩ (c_X5_bestGiver X (xs (xk + 1).toNatClampNeg)) (cwV 1 htsL gL_law_X5_bestGiver rfl rfl rfl (by decide +kernel) ⟨Nat.le_of_ble_eq_true rfl, Nat.le_of_ble_eq_true rfl⟩) hK hN hPC 233 g0_233 rfl rfl hl.1 rfl (Nat.le_of_ble_eq_true rfl) dL_law_652 ⟨Nat.le_of_ble_eq_true rfl, Nat.le_of_ble_eq_true rfl⟩ ?_
        refine lv_aload_n hx hb dL_law_655 rfl (lv_at hl 2 rfl) ?_
        refine lv_aload_n hx hb dL_law_656 rfl (lv_at hl 0 rfl) ?_
        refine lv_iload_n hx hb dL_law_657 rfl (lv_at hl 3 rfl) ?_
        refine lv_iconst (v := 1) hx hb dL_law_658 (by decide) ?_
        refine lv_iadd hx hb dL_law_659 ?_
        refine va_sld hx hb hX hbl hbA hS (law_in hL hgo ek (show (1 : Int32) = nI 1 from rfl) (by omega)) dL_law_660 ?_
        refine callE (As := [.int (xs (xk + 1).toNatClampNeg)]) ⟨hx, hb, hml, hown, htsL⟩ (c_X6_bestGiver Y hok (xs (xk + 1).toNatClampNeg)) (cwV 1 htsL gL_law_X6_bestGiver rfl rfl rfl (by decide +kernel) ⟨Nat.le_of_ble_eq_true rfl, Nat.le_of_ble_eq_true rfl⟩) hK hN hPM 0 rfl rfl rfl hl.1 rfl (Nat.le_of_ble_eq_true rfl) dL_law_661 ⟨Nat.le_of_ble_eq_true rfl, Nat.le_of_ble_eq_true rfl⟩ ?_
        refine lv_icmp_eq (tgt := 725) hx hb dL_law_664 (by decide) (fun _ => ?_) (fun c9 => absurd (by rw [(rel_ok v).2]) c9)
        exact hnext _ _ H locs (rel_mono ht v) hPC hPM hS ls hl
      by_cases s_19 : (xs xk.toNatClampNeg) &&& 31 = 19
      · refine lv_tableIn (off := 637) (tgt := 669) hx hb dL_law_32 (by rw [s_19]; decide) (by rw [s_19]; decide) (by rw [s_19]; rfl) (by decide) ?_
        refine lv_aload_n hx hb dL_law_669 rfl (lv_at hl 1 rfl) ?_
        refine lv_aload_n hx hb dL_law_670 rfl (lv_at hl 0 rfl) ?_
        refine lv_iload_n hx hb dL_law_671 rfl (lv_at hl 3 rfl) ?_
        refine lv_iconst (v := 1) hx hb dL_law_672 (by decide) ?_
        refine lv_iadd hx hb dL_law_673 ?_
        refine va_sld hx hb hX hbl hbA hS (law_in hL hgo ek (show (1 : Int32) = nI 1 from rfl) (by omega)) dL_law_674 ?_
        refine lv_aload_n hx hb dL_law_675 rfl (lv_at hl 0 rfl) ?_
        refine lv_iload_n hx hb dL_law_676 rfl (lv_at hl 3 rfl) ?_
        refine lv_iconst (v := 2) hx hb dL_law_677 (by decide) ?_
        refine lv_iadd hx hb dL_law_678 ?_
        refine va_sld hx hb hX hbl hbA hS (law_in hL hgo ek (show (2 : Int32) = nI 2 from rfl) (by omega)) dL_law_679 ?_
        refine callE (As := [.int (xs (xk + 1).toNatClampNeg), .int (xs (xk + 2).toNatClampNeg)]) (rest := []) ⟨hx, hb, hml, hown, htsL⟩ (c_X5_richest X (xs (xk + 1).toNatClampNeg) (xs (xk + 2).toNatClampNeg)) (cwV 2 htsL gL_law_X5_richest rfl rfl rfl (by decide +kernel) ⟨Nat.le_of_ble_eq_true rfl, Nat.le_of_ble_eq_true rfl⟩) hK hN hPC 233 g0_233 rfl rfl hl.1 rfl (Nat.le_of_ble_eq_true rfl) dL_law_680 ⟨Nat.le_of_ble_eq_true rfl, Nat.le_of_ble_eq_true rfl⟩ ?_
        refine lv_aload_n hx hb dL_law_683 rfl (lv_at hl 2 rfl) ?_
        refine lv_aload_n hx hb dL_law_684 rfl (lv_at hl 0 rfl) ?_
        refine lv_iload_n hx hb dL_law_685 rfl (lv_at hl 3 rfl) ?_
        refine lv_iconst (v := 1) hx hb dL_law_686 (by decide) ?_
        refine lv_iadd hx hb dL_law_687 ?_
        refine va_sld hx hb hX hbl hbA hS (law_in hL hgo ek (show (1 : Int32) = nI 1 from rfl) (by omega)) dL_law_688 ?_
        refine lv_aload_n hx hb dL_law_689 rfl (lv_at hl 0 rfl) ?_
        refine lv_iload_n hx hb dL_law_690 rfl (lv_at hl 3 rfl) ?_
        refine lv_iconst (v := 2) hx hb dL_law_691 (by decide) ?_
        refine lv_iadd hx hb dL_law_692 ?_
        refine va_sld hx hb hX hbl hbA hS (law_in hL hgo ek (show (2 : Int32) = nI 2 from rfl) (by omega)) dL_law_693 ?_
        refine callE (As := [.int (xs (xk + 1).toNatClampNeg), .int (xs (xk + 2).toNatClampNeg)]) ⟨hx, hb, hml, hown, htsL⟩ (c_X6_richest Y hok (xs (xk + 1).toNatClampNeg) (xs (xk + 2).toNatClampNeg)) (cwV 2 htsL gL_law_X6_richest rfl rfl rfl (by decide +kernel) ⟨Nat.le_of_ble_eq_true rfl, Nat.le_of_ble_eq_true rfl⟩) hK hN hPM 0 rfl rfl rfl hl.1 rfl (Nat.le_of_ble_eq_true rfl) dL_law_694 ⟨Nat.le_of_ble_eq_true rfl, Nat.le_of_ble_eq_true rfl⟩ ?_
        refine lv_icmp_eq (tgt := 725) hx hb dL_law_697 (by decide) (fun _ => ?_) (fun c9 => absurd (by rw [(rel_ok v).2]) c9)
        exact hnext _ _ H locs (rel_mono ht v) hPC hPM hS ls hl
      by_cases s_20 : (xs xk.toNatClampNeg) &&& 31 = 20
      · refine lv_tableIn (off := 670) (tgt := 702) hx hb dL_law_32 (by rw [s_20]; decide) (by rw [s_20]; decide) (by rw [s_20]; rfl) (by decide) ?_
        refine lv_aload_n hx hb dL_law_702 rfl (lv_at hl 1 rfl) ?_
        refine lv_aload_n hx hb dL_law_703 rfl (lv_at hl 0 rfl) ?_
        refine lv_iload_n hx hb dL_law_704 rfl (lv_at hl 3 rfl) ?_
        refine lv_iconst (v := 1) hx hb dL_law_705 (by decide) ?_
        refine lv_iadd hx hb dL_law_706 ?_
        refine va_sld hx hb hX hbl hbA hS (law_in hL hgo ek (show (1 : Int32) = nI 1 from rfl) (by omega)) dL_law_707 ?_
        refine callE (As := [.int (xs (xk + 1).toNatClampNeg)]) (rest := []) ⟨hx, hb, hml, hown, htsL⟩ (c_X5_wouldLapse X (xs (xk + 1).toNatClampNeg)) (cwV 1 htsL gL_law_X5_wouldLapse rfl rfl rfl (by decide +kernel) ⟨Nat.le_of_ble_eq_true rfl, Nat.le_of_ble_eq_true rfl⟩) hK hN hPC 233 g0_233 rfl rfl hl.1 rfl (Nat.le_of_ble_eq_true rfl) dL_law_708 ⟨Nat.le_of_ble_eq_true rfl, Nat.le_of_ble_eq_true rfl⟩ ?_
        refine lv_aload_n hx hb dL_law_711 rfl (lv_at hl 2 rfl) ?_
        refine lv_aload_n hx hb dL_law_712 rfl (lv_at hl 0 rfl) ?_
        refine lv_iload_n hx hb dL_law_713 rfl (lv_at hl 3 rfl) ?_
        refine lv_iconst (v := 1) hx hb dL_law_714 (by decide) ?_
        refine lv_iadd hx hb dL_law_715 ?_
        refine va_sld hx hb hX hbl hbA hS (law_in hL hgo ek (show (1 : Int32) = nI 1 from rfl) (by omega)) dL_law_716 ?_
        refine callE (As := [.int (xs (xk + 1).toNatClampNeg)]) ⟨hx, hb, hml, hown, htsL⟩ (c_X6_wouldLapse Y hok (xs (xk + 1).toNatClampNeg)) (cwV 1 htsL gL_law_X6_wouldLapse rfl rfl rfl (by decide +kernel) ⟨Nat.le_of_ble_eq_true rfl, Nat.le_of_ble_eq_true rfl⟩) hK hN hPM 0 rfl rfl rfl hl.1 rfl (Nat.le_of_ble_eq_true rfl) dL_law_717 ⟨Nat.le_of_ble_eq_true rfl, Nat.le_of_ble_eq_true rfl⟩ ?_
        refine lv_icmp_eq (tgt := 725) hx hb dL_law_720 (by decide) (fun _ => ?_) (fun c9 => absurd (by rw [(rel_ok v).2]) c9)
        exact hnext _ _ H locs (rel_mono ht v) hPC hPM hS ls hl
      have h9 : ((xs xk.toNatClampNeg) &&& 31).toInt < 0 ∨ 20 < ((xs xk.toNatClampNeg) &&& 31).toInt := by
        have q_0 := lv_neT (a := 0) s_0 rfl
        have q_1 := lv_neT (a := 1) s_1 rfl
        have q_2 := lv_neT (a := 2) s_2 rfl
        have q_3 := lv_neT (a := 3) s_3 rfl
        have q_4 := lv_neT (a := 4) s_4 rfl
        have q_5 := lv_neT (a := 5) s_5 rfl
        have q_6 := lv_neT (a := 6) s_6 rfl
        have q_7 := lv_neT (a := 7) s_7 rfl
        have q_8 := lv_neT (a := 8) s_8 rfl
        have q_9 := lv_neT (a := 9) s_9 rfl
        have q_10 := lv_neT (a := 10) s_10 rfl
        have q_11 := lv_neT (a := 11) s_11 rfl
        have q_12 := lv_neT (a := 12) s_12 rfl
        have q_13 := lv_neT (a := 13) s_13 rfl
        have q_14 := lv_neT (a := 14) s_14 rfl
        have q_15 := lv_neT (a := 15) s_15 rfl
        have q_16 := lv_neT (a := 16) s_16 rfl
        have q_17 := lv_neT (a := 17) s_17 rfl
        have q_18 := lv_neT (a := 18) s_18 rfl
        have q_19 := lv_neT (a := 19) s_19 rfl
        have q_20 := lv_neT (a := 20) s_20 rfl
        omega
      refine lv_tableOut (tgt := 725) hx hb dL_law_32 h9 (by decide) ?_
      exact hnext _ _ H locs (rel_mono ht v) hPC hPM hS ls hl
