theorem mkW_len {n : Nat} {a : Nat → Nat} {E : (Nat → Nat) → Nat → va_E} : (mkW n a E).length = n := by
  unfold mkW
  rw [List.length_map, List.length_range]
theorem mkW_app {n k : Nat} {a b c : Nat → Nat} {E E2 E3 : (Nat → Nat) → Nat → va_E} (h1 : ∀ j, j < n → (c j, E3 c j) = (a j, E a j)) (h2 : ∀ j, j < k → (c (n + j), E3 c (n + j)) = (b j, E2 b j)) : mkW n a E ++ mkW k b E2 = mkW (n + k) c E3 := by
  unfold mkW
  rw [List.range_add, List.map_append, List.map_map]
  congr 1
  · exact List.map_congr_left (fun j hj => (h1 j (List.mem_range.mp hj)).symm)
  · exact List.map_congr_left (fun j hj => (h2 j (List.mem_range.mp hj)).symm)
theorem mkW_P {D : va_G} {n : Nat} {c : Nat → Nat} {E : (Nat → Nat) → Nat → va_E} {H : Heap} (h : ∀ i, i < n → va_at D vwCl (c i, E c i) H) : va_P D vwCl (mkW n c E) H := fun k q hk => by
  obtain ⟨h1, rfl⟩ := mkW_of hk
  exact h k h1
theorem mkW_D {A : Nat → Prop} {ws : va_W} {n : Nat} {c g : Nat → Nat} {E : (Nat → Nat) → Nat → va_E} (hD : va_D A ws) (h : ∀ i, i < n → ∃ e, ws[g i]? = some (c i, e)) (hg : ∀ i j, i < n → j < n → g i = g j → i = j) : va_D A (mkW n c E) := by
  refine ⟨fun i j x y hi hj e => ?_, fun i x hi => ?_⟩
  · obtain ⟨a1, rfl⟩ := mkW_of hi
    obtain ⟨a2, rfl⟩ := mkW_of hj
    obtain ⟨e1, b1⟩ := h i a1
    obtain ⟨e2, b2⟩ := h j a2
    exact hg i j a1 a2 (hD.1 _ _ _ _ b1 b2 e)
  · obtain ⟨a1, rfl⟩ := mkW_of hi
    obtain ⟨e1, b1⟩ := h i a1
    exact hD.2 _ (c i, e1) b1
theorem vp_cell_extq {cA : ClassId} {n : Nat} {f g : Nat → Option Nat} (h : ∀ j, j < n → f j = g j) : vp_cell cA (n, .inr (.inr (.inr (.inr f)))) = vp_cell cA (n, .inr (.inr (.inr (.inr g)))) := by
  show arrV cA n (fun j => va_rf (f j)) = arrV cA n (fun j => va_rf (g j))
  unfold arrV
  congr 1
  apply Array.ext
  · simp
  · intro i h1 h2
    simp at h1
    simp [h i h1]
theorem EB_c {cI : ClassId} {u v : Nat → Nat} {j : Nat} (h : ∀ x, x < 17 → u x = v x) : EB cI u j = EB cI v j := by
  unfold EB bkE
  rw [h (17 * 0 + 1) (by omega), h (17 * 0 + 2) (by omega), h (17 * 0 + 3) (by omega), h (17 * 0 + 4) (by omega), h (17 * 0 + 5) (by omega), h (17 * 0 + 6) (by omega), h (17 * 0 + 7) (by omega), h (17 * 0 + 8) (by omega), h (17 * 0 + 9) (by omega), h (17 * 0 + 10) (by omega), h (17 * 0 + 11) (by omega), h (17 * 0 + 12) (by omega), h (17 * 0 + 13) (by omega), h (17 * 0 + 14) (by omega), h (17 * 0 + 15) (by omega), h (17 * 0 + 16) (by omega)]
theorem ED_c {cI : ClassId} {u v : Nat → Nat} {j : Nat} (h : ∀ x, x < 18 → u x = v x) : ED cI u j = ED cI v j := by
  unfold ED
  rw [h 1 (by omega), EB_c (u := fun i => u (i + 1)) (v := fun i => v (i + 1)) (fun x hx => h (x + 1) (by omega))]
theorem idx2 {x y : Nat × va_E} {A : va_W} {j : Nat} : ([x, y] ++ A)[2 + j]? = A[j]? := by
  rw [List.getElem?_append_right (by simp), show 2 + j - [x, y].length = j from by simp]
theorem idxA {x y : Nat × va_E} {n : Nat} {a : Nat → Nat} {E : (Nat → Nat) → Nat → va_E} {B : va_W} : (([x, y] ++ mkW n a E) ++ B)[2 + n]? = B[0]? := by
  have e : ([x, y] ++ mkW n a E).length = 2 + n := by simp [mkW_len]; omega
  rw [List.getElem?_append_right (by omega), e, Nat.sub_self]
/-- deeds, one after the other -/
def EDs (cI : ClassId) (a : Nat → Nat) (j : Nat) : va_E := ED cI (fun x => a (18 * (j / 18) + x)) (j % 18)
theorem EDs_app {cI : ClassId} {k : Nat} {a f : Nat → Nat} : mkW (18 * k) a (EDs cI) ++ mkW 18 f (ED cI) = mkW (18 * (k + 1)) (fun j => if j < 18 * k then a j else f (j - 18 * k)) (EDs cI) := by
  rw [show 18 * (k + 1) = 18 * k + 18 by omega]
  refine mkW_app (fun j hj => ?_) (fun j hj => ?_)
  · unfold EDs
    rw [if_pos hj, ED_c (fun x hx => if_pos (by omega))]
  · unfold EDs
    rw [if_neg (by omega), show 18 * k + j - 18 * k = j by omega, show (18 * k + j) % 18 = j by omega, show (18 * k + j) / 18 = k by omega]
    rw [ED_c (v := f) (fun x hx => by show (if 18 * k + x < 18 * k then a (18 * k + x) else f (18 * k + x - 18 * k)) = f x; rw [if_neg (by omega), show 18 * k + x - 18 * k = x by omega])]
def EM (cI cR : ClassId) (c : Nat → Nat) (j : Nat) : va_E := if j = 0 then .inr (4, [.ref (c 1), .int 0, .int 0, .int 0]) else if j = 1 then .inl (cR, 12, .inr (.inr (.inr (.inr (fun i => some (c (2 + 18 * i))))))) else EDs cI (fun x => c (x + 2)) (j - 2)
set_option maxHeartbeats 4000000 in
set_option maxRecDepth 100000 in
theorem c_X4_init {l : Launch} {D : va_G} {cI cR : ClassId} : MkC l D cI cR 4 [.null, .int 0, .int 0, .int 0] 218 (EM cI cR) yX4_init wsX4_init ({ frames := 4, cells := 217, slots := 4668, locals := 80 } : Room) 217 4668 := by
  refine OfMk (cc := cX4_init) (maxL := 2) (by decide +kernel) rfl (Nat.le_of_ble_eq_true rfl) (fun h0 p e s m below meth c hx hb hr hts hown hlocks hml hnm hP hD hK hN hO ls hl => ?_)
  have hin : meth.name = "<init>" := hnm
  have hA : ∀ q, s.heap.size ≤ q → Fr h0 s.heap.size q := fun q h => Or.inr h
  have hS : va_S (Fr h0 s.heap.size) s.heap s.heap [] := va_S.rf
  have hi_X4 : ∀ w ∈ wsX40, w ∈ wsX4_init := by decide +kernel
  have hi_X2 : ∀ w ∈ wsX20, w ∈ wsX4_init := by decide +kernel
  refine lv_aload_n hx hb dX4_init_0 rfl (lv_at hl 0 rfl) ?_
  refine W.objInit hx hb hown (hts (.methodLink RX4 3 objectInit) (by decide +kernel)) (hts (.instanceMethod objectInit) (by decide +kernel)) (hts (.code objectInit ⟨#[0xb1]⟩ 1 none) (List.mem_of_getElem? (i := 3) rfl)) rfl (by rw [hml]; exact hl.1) rfl dX4_init_1 (Nat.le_of_ble_eq_true rfl) (Nat.le_of_ble_eq_true rfl) ?_
  refine W.eq (g2 := F0 m 4 ls []) rfl ?_
  refine lv_aload_n hx hb dX4_init_4 rfl (lv_at hl 0 rfl) ?_
  refine lv_bipush (v := 12) hx hb dX4_init_5 (by decide) ?_
  refine va_newq (C := "HeadBudgets$Deed") (N' := 12) hx hb hown (hts (.classLink RX4 9 RX2) (by decide +kernel)) hO hK hP hD hS hA (by decide) (by decide) (by decide) (Nat.le_of_ble_eq_true rfl) (Nat.le_of_ble_eq_true rfl) dX4_init_7 (fun q cA H hK1 hP hD hS => ?_)
  have ecA : cA = cR := arr_R hK hK1
  subst ecA
  have hP : va_P D vwCl [(h0, .inr (4, [.null, .int 0, .int 0, .int 0])), (q, .inl (cA, 12, .inr (.inr (.inr (.inr (fun _ => none))))))] H := hP
  have hD : va_D (Fr h0 s.heap.size) [(h0, .inr (4, [.null, .int 0, .int 0, .int 0])), (q, .inl (cA, 12, .inr (.inr (.inr (.inr (fun _ => none))))))] := hD
  refine xputF (C := RX4) (T := TX4) (N := 4) (ci := 4) (v := .ref q) (ty := .array (.object "HeadBudgets$Deed")) (ws' := [(h0, .inr (4, [.ref q, .int 0, .int 0, .int 0])), (q, .inl (cA, 12, .inr (.inr (.inr (.inr (fun _ => none))))))]) hx hb hts hi_X4 tyX4 tyX4_ok nmX4 hown hK hP hD hS 0 rfl rfl 0 (by decide) (hts (.fieldLink RX4 11 "HeadBudgets$Memory" "places" "[LHeadBudgets$Deed;") (by decide +kernel)) rfl hin rfl (by decide +kernel) rfl rfl (Nat.le_of_ble_eq_true rfl) rfl dX4_init_10 (fun H locs hP hD hS => ?_)
  refine lv_iconst (v := 0) hx hb dX4_init_13 (by decide) ?_
  refine lv_istore_n (lv' := [(1, .int 0), (0, .ref h0)]) hx hb dX4_init_14 rfl hl (by decide) rfl (fun ls hl => ?_)
  have hloop : ∀ (n15 k : Nat) (xk : Int32) (a : Nat → Nat) (fk : Nat → Option Nat) (H : Heap) (locs : List Loc), 12 < k + n15 → k ≤ 12 → xk = nI k → (∀ i, i < k → fk i = some (a (18 * i))) → va_P D vwCl ([(h0, .inr (4, [.ref q, .int 0, .int 0, .int 0])), (q, .inl (cA, 12, .inr (.inr (.inr (.inr (fk))))))] ++ mkW (18 * k) a (EDs cI)) H → va_D (Fr h0 s.heap.size) ([(h0, .inr (4, [.ref q, .int 0, .int 0, .int 0])), (q, .inl (cA, 12, .inr (.inr (.inr (.inr (fk))))))] ++ mkW (18 * k) a (EDs cI)) → va_S (Fr h0 s.heap.size) s.heap H locs → ∀ ls : Array Slot, lv_has ls 2 [(0, .ref h0), (1, .int xk)] → W p l e ({ frames := 4, cells := 217, slots := 4668, locals := 80 } : Room) s m [Value.ref h0].toArray below meth c H locs (1 + 18 * k) (12 + 388 * k) (MQ below (QkC D h0 s.heap.size 218 (EM cI cA)) [Value.ref h0].toArray s 217 4668 (Fr h0 s.heap.size)) (F0 m 15 ls []) := by
    intro n15
    induction n15 with
    | zero => intro k xk a fk H locs h1 h2; exfalso; omega
    | succ n15 ih =>
      intro k xk a fk H locs hn hk ek hf hP hD hS ls hl
      refine lv_iload_n hx hb dX4_init_15 rfl (lv_at hl 1 rfl) ?_
      refine lv_bipush (v := 12) hx hb dX4_init_16 (by decide) ?_
      refine lv_icmp_ge (tgt := 40) hx hb dX4_init_18 (by decide) (fun c_18 => ?_) (fun c_18 => ?_)
      · have hk2 : k = 12 := nI_ge12 hk (by rw [← ek]; exact c_18)
        subst hk2
        obtain ⟨cc, ecc⟩ : ∃ cc : Nat → Nat, cc = fun j => if j = 0 then h0 else if j = 1 then q else a (j - 2) := ⟨_, rfl⟩
        have hi : ∀ i, i < 218 → ∃ e9, ([(h0, .inr (4, [.ref q, .int 0, .int 0, .int 0])), (q, .inl (cA, 12, .inr (.inr (.inr (.inr (fk))))))] ++ mkW (18 * 12) a (EDs cI))[i]? = some (cc i, e9) ∧ va_at D vwCl (cc i, EM cI cA cc i) H := fun i hi => by
          have c2 : (fun x => cc (x + 2)) = a := by funext x; rw [ecc]; show (if x + 2 = 0 then h0 else if x + 2 = 1 then q else a (x + 2 - 2)) = a x; rw [if_neg (by omega), if_neg (by omega), show x + 2 - 2 = x by omega]
          by_cases i0 : i = 0
          · subst i0
            refine ⟨_, by rw [ecc]; rfl, ?_⟩
            have z := hP 0 _ rfl
            rw [ecc]
            exact z
          · by_cases i1 : i = 1
            · subst i1
              refine ⟨_, by rw [ecc]; rfl, ?_⟩
              have z : H[q]? = some (vp_cell cA (12, .inr (.inr (.inr (.inr fk))))) := hP 1 _ rfl
              rw [vp_cell_extq (g := fun i => some (cc (2 + 18 * i))) (fun j hj => by rw [hf j hj, ecc]; show some (a (18 * j)) = some (if 2 + 18 * j = 0 then h0 else if 2 + 18 * j = 1 then q else a (2 + 18 * j - 2)); rw [if_neg (by omega), if_neg (by omega), show 2 + 18 * j - 2 = 18 * j by omega])] at z
              have c1 : cc 1 = q := by rw [ecc]; rfl
              rw [c1]
              exact z
            · obtain ⟨j, ej⟩ : ∃ j : Nat, i = 2 + j := ⟨i - 2, by omega⟩
              have g : ([(h0, .inr (4, [.ref q, .int 0, .int 0, .int 0])), (q, .inl (cA, 12, .inr (.inr (.inr (.inr (fk))))))] ++ mkW (18 * 12) a (EDs cI))[i]? = some (a j, EDs cI a j) := by
                rw [ej, idx2]
                exact mkW_at (by omega)
              have cj : cc i = a j := by rw [ecc]; show (if i = 0 then h0 else if i = 1 then q else a (i - 2)) = a j; rw [if_neg i0, if_neg i1, show i - 2 = j by omega]
              refine ⟨_, by rw [cj]; exact g, ?_⟩
              have z := hP i _ g
              have ee : EM cI cA cc i = EDs cI a j := by
                unfold EM
                rw [if_neg i0, if_neg i1, c2, show i - 2 = j by omega]
              rw [cj, ee]
              exact z
        have hP9 : va_P D vwCl (mkW 218 cc (EM cI cA)) H := mkW_P (fun i h => (hi i h).elim (fun _ z => z.2))
        have hD9 : va_D (Fr h0 s.heap.size) (mkW 218 cc (EM cI cA)) := mkW_D (g := fun i => i) hD (fun i h => (hi i h).elim (fun e9 z => ⟨e9, z.1⟩)) (fun i j _ _ z => z)
        refine W.widen (k := 217) (n := 4668) (by omega) (by omega) ?_
        exact retMk hx hb hr hlocks dX4_init_40 hP9 hD9 (by rw [ecc]; rfl) hS
      · have hlt : k < 12 := nI_lt12 (by omega) (by rw [← ek]; exact c_18)
        refine lv_aload_n hx hb dX4_init_21 rfl (lv_at hl 0 rfl) ?_
        refine xget (C := RX4) (T := TX4) (N := 4) (ci := 4) (w := .ref q) hx hb hts hi_X4 hown hK hP 0 rfl rfl 0 (by decide) (hts (.fieldLink RX4 11 "HeadBudgets$Memory" "places" "[LHeadBudgets$Deed;") (by decide +kernel)) rfl dX4_init_22 ?_
        refine lv_iload_n hx hb dX4_init_25 rfl (lv_at hl 1 rfl) ?_
        refine va_new (ci := 2) (fs := [.null, .int 0, .int 0, .int 0, .int 0, .int 0]) (C := RX2) (T := TX2) (N := 6) hx hb hts hi_X2 tyX2 tyX2_ok hown (hts (.classLink RX4 9 RX2) (by decide +kernel)) (hts (.instantiable RX2 6) (by decide +kernel)) (hts (.initialized RX2) (by decide +kernel)) hK hP hD hS hA rfl (fun j hj => by rcases (show j = 0 ∨ j = 1 ∨ j = 2 ∨ j = 3 ∨ j = 4 ∨ j = 5 by omega) with rfl | rfl | rfl | rfl | rfl | rfl <;> rfl) (by show 1 + 18 * k + 1 ≤ 217; omega) (by show 12 + 388 * k + 6 ≤ 4668; omega) dX4_init_26 (fun q26 H hP hD hS => ?_)
        refine lv_dup hx hb dX4_init_29 rfl ?_
        refine callMkN (ws := [(h0, .inr (4, [.ref q, .int 0, .int 0, .int 0])), (q, .inl (cA, 12, .inr (.inr (.inr (.inr (fk))))))] ++ mkW (18 * k) a (EDs cI)) (rest := [.ref q26, .int xk, .ref q]) (n := 18) (E := ED cI) ⟨hx, hb, hml, hown, hts⟩ c_X2_init ⟨va_cnB 0 hts gX4_init_X2_init_n17 rfl rfl rfl hN.2.2.2.1 (hts (.initialized RX2) (by decide +kernel)) (by decide +kernel) ⟨Nat.le_of_ble_eq_true rfl, Nat.le_of_ble_eq_true rfl⟩, rfl, hts (.instanceMethod yX2_init) (by decide +kernel)⟩ hK hN hO hP hD hS hA hl.1 (Nat.le_of_ble_eq_true rfl) dX4_init_30 ⟨by show 1 + 18 * k + 1 + 17 ≤ 217; omega, by show 12 + 388 * k + 6 + 382 ≤ 4668; omega⟩ (fun f H locs hf_f hP1 hD1 hS => ?_)
        subst hf_f
        have hP := hP1
        have hD := hD1
        have hv : ([(h0, .inr (4, [.ref q, .int 0, .int 0, .int 0])), (q, .inl (cA, 12, .inr (.inr (.inr (.inr (fk))))))] ++ mkW (18 * k) a (EDs cI) ++ mkW 18 f (ED cI))[2 + 18 * k]? = some (f 0, .inr (2, [.ref (f 1), .int 0, .int 0, .int 0, .int 0, .int 0])) := by
          rw [idxA, mkW_at (by omega)]
          rfl
        refine va_astq hx hb hK hP hD hS 1 1 (2 + 18 * k) 2 (cA := cA) (r := (RX2, TX2, 6)) rfl rfl hv rfl (in12 ek hlt) dX4_init_33 (fun H locs hP2 hD2 hS => ?_)
        have exk : xk.toNatClampNeg = k := by rw [ek]; exact nI_c (by omega)
        rw [exk] at hP2 hD2
        have hP3 : va_P D vwCl ([(h0, .inr (4, [.ref q, .int 0, .int 0, .int 0])), (q, .inl (cA, 12, .inr (.inr (.inr (.inr (va_up fk k (some (f 0))))))))] ++ (mkW (18 * k) a (EDs cI) ++ mkW 18 f (ED cI))) H := hP2
        have hD3 : va_D (Fr h0 s.heap.size) ([(h0, .inr (4, [.ref q, .int 0, .int 0, .int 0])), (q, .inl (cA, 12, .inr (.inr (.inr (.inr (va_up fk k (some (f 0))))))))] ++ (mkW (18 * k) a (EDs cI) ++ mkW 18 f (ED cI))) := hD2
        rw [EDs_app] at hP3 hD3
        refine lv_iinc (v := xk + 1) (lv' := [(1, .int (xk + 1)), (0, .ref h0)]) hx hb dX4_init_34 hl (k := 1) rfl rfl (by decide) rfl (fun ls hl => ?_)
        refine lv_goto (tgt := 15) hx hb dX4_init_37 (by decide) ?_
        refine W.widen (k := 1 + 18 * (k + 1)) (n := 12 + 388 * (k + 1)) (by omega) (by omega) ?_
        refine ih (k + 1) (xk + 1) _ _ H locs (by omega) (by omega) (by rw [ek]; exact nI_1 k) (fun i hi => ?_) hP3 hD3 hS ls (lv_sub hl [1, 0] rfl)
        by_cases z : i = k
        · subst z
          simp [va_up]
        · have h9 : i < k := by omega
          have h8 : 18 * i < 18 * k := by omega
          simp [va_up, z, hf i h9, h8]
  exact hloop 13 0 0 (fun _ => 0) (fun _ => none) _ _ (by omega) (by omega) rfl (fun i h => by omega) hP hD hS ls (lv_sub hl [1, 0] rfl)
