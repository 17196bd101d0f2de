/-! THE TWO OBJECTS MADE: their worlds wC and wM -/
def QkG (D : va_G) (h0 sz n i0 : Nat) (Wd : (Nat → Nat) → va_W) : Array Value → State → Outcome → State → Prop := va_Qv (S := Nat → Nat) (fun a => a i0 = h0 ∧ (∀ j, j < n → Fr h0 sz (a j)) ∧ Dj n a) (fun a t => va_P D vwCl (Wd a) t.heap) (Fr h0 sz)
def MkG (l : Launch) (D : va_G) (cI cR : ClassId) (ci : Nat) (fs0 : List Value) (n i0 : Nat) (Wd : (Nat → Nat) → va_W) (y : MethodName) (wds : List Cond) (rm : Room) (mc ms : Nat) : Prop :=
  ∀ h0 sz : Nat, Met l y wds rm (PkC D cI cR h0 sz ci fs0) (QkG D h0 sz n i0 Wd) mc ms (Fr h0 sz)
theorem OfMkG {l : Launch} {D : va_G} {cI cR : ClassId} {ci n i0 : Nat} {fs0 : List Value} {Wd : (Nat → Nat) → va_W} {y : MethodName} {wds wds' : List Cond} {rm : Room} {mc ms : Nat} {cc : ByteArray} {maxL : Nat}
    (hy : plainName y.cls = true) (hw : wds = Cond.code y cc maxL none :: wds') (hlen : 1 ≤ maxL)
    (body : ∀ (h0 : Nat) (p : Program) (e : Env) (s : State) (m : MethodId) (below : List Frame) (meth : Method) (c : Code), p.tables.exec = Jvm.exec → c.code = cc → meth.sig.returnType = none → (∀ w ∈ wds, w.before [Value.ref h0].toArray s = true) → s.vm.findClass y.cls = some m.cls → meth.locks = false → c.maxLocals = maxL → meth.name = y.name → va_P D vwCl [(h0, .inr (ci, fs0))] s.heap → va_D (Fr h0 s.heap.size) [(h0, .inr (ci, fs0))] → va_K D vwCl (tysC cI cR) s → Nst s → va_AO "HeadBudgets$Deed" s → ∀ ls : Array Slot, lv_has ls maxL [(0, .ref h0)] →
      W p l e rm s m [Value.ref h0].toArray below meth c s.heap [] 0 0 (MQ below (QkG D h0 s.heap.size n i0 Wd) [Value.ref h0].toArray s mc ms (Fr h0 s.heap.size)) (F0 m 0 ls [])) : MkG l D cI cR ci fs0 n i0 Wd y wds rm mc ms := by
  intro h0 sz
  refine Met.ofW (cc := cc) (maxL := maxL) (ret := none) hy hw ?_
  intro p e s m args below meth c s₁ B hml hv
  obtain ⟨rfl, hsz, hP, hK, hN, hO⟩ := hv
  subst hsz
  have hl := lv_entry [Value.ref h0] (n := maxL) hlen
  rw [lg_entry_eq]
  have hD : va_D (Fr h0 s.heap.size) [(h0, .inr (ci, fs0))] := by
    refine ⟨fun i j p q hi hj _ => ?_, fun k q hk => ?_⟩
    · have h1 := (List.getElem?_eq_some_iff.mp hi).1
      have h2 := (List.getElem?_eq_some_iff.mp hj).1
      simp only [List.length_cons, List.length_nil] at h1 h2
      omega
    · have h1 := (List.getElem?_eq_some_iff.mp hk).1
      simp only [List.length_cons, List.length_nil] at h1
      have hk0 : k = 0 := by omega
      subst hk0
      cases hk
      exact Or.inl rfl
  exact body h0 p e s m below meth c B.exec B.bytes B.returns (atoms_spec (ws := wds) B.pre) (findClass_of_methodNamed B.named) B.notSynchronized hml (name_of_methodNamed B.named B.method).1 hP hD hK hN hO _ hl
theorem retMkG {p : Program} {l : Launch} {e : Env} {R : Room} {s : State} {m : MethodId} {args : Array Value} {below : List Frame} {meth : Method} {c : Code} {H : Heap} {locs : List Loc} {cc : ByteArray} {pc n i0 h0 mc ms : Nat} {ls : Array Slot} {D : va_G} {Wd : (Nat → Nat) → va_W} {f : Nat → Nat} (hx : p.tables.exec = Jvm.exec) (hb : c.code = cc) (hr : meth.sig.returnType = none) (hlocks : meth.locks = false) (hdg : decode cc pc = .ok (.return_, 1)) (hP : va_P D vwCl (Wd f) H) (e0 : f i0 = h0) (hF : ∀ j, j < n → Fr h0 s.heap.size (f j)) (hd : Dj n f) (hS : va_S (Fr h0 s.heap.size) s.heap H locs) :
    W p l e R s m args below meth c H locs mc ms (MQ below (QkG D h0 s.heap.size n i0 Wd) args s mc ms (Fr h0 s.heap.size)) (F0 m pc ls []) :=
  W.vret hx hb hr (fun t ht _ => ⟨⟨f, rfl, ⟨e0, hF, hd⟩, (by show va_P D vwCl (Wd f) t.heap; rw [ht]; exact hP)⟩, hS.F ht⟩) hS.2.2 hdg hlocks
-- the class's world
theorem bkE_s {cI : ClassId} {ad v : Nat → Nat} {g j : Nat} {r : Bk} (h : ∀ x, x < 17 → ad (17 * g + x) = v x) : bkE cI ad g r j = bkE cI v 0 r j := by
  unfold bkE
  rw [h 1 (by omega), h 2 (by omega), h 3 (by omega), h 4 (by omega), h 5 (by omega), h 6 (by omega), h 7 (by omega), h 8 (by omega), h 9 (by omega), h 10 (by omega), h 11 (by omega), h 12 (by omega), h 13 (by omega), h 14 (by omega), h 15 (by omega), h 16 (by omega)]
def XZ : St := fun g f i => if g < 13 then B00 f i else 0
def adC (h0 : Nat) (f g : Nat → Nat) (k : Nat) : Nat := if k < 17 then f k else if k < 221 then g (3 + 18 * ((k - 17) / 17) + (k - 17) % 17) else if k < 233 then g (2 + 18 * (k - 221)) else if k = 233 then h0 else if k = 234 then g 0 else g 1
def ixC (k : Nat) : Nat := if k < 17 then 1 + k else if k < 221 then 18 + (3 + 18 * ((k - 17) / 17) + (k - 17) % 17) else if k < 233 then 18 + (2 + 18 * (k - 221)) else if k = 233 then 0 else if k = 234 then 18 else 19
def jxC (t : Nat) : Nat := if t = 0 then 233 else if t < 18 then t - 1 else if t = 18 then 234 else if t = 19 then 235 else if (t - 20) % 18 = 0 then 221 + (t - 20) / 18 else 17 * ((t - 20) / 18 + 1) + (t - 20) % 18 - 1
theorem ixC_inv : ∀ k, k < 236 → jxC (ixC k) = k := by decide +kernel
theorem adC_0 {h0 : Nat} {f g : Nat → Nat} {k : Nat} (h : k < 17) : adC h0 f g k = f k := if_pos h
theorem adC_1 {h0 : Nat} {f g : Nat → Nat} {i x : Nat} (hi : i < 12) (hx : x < 17) : adC h0 f g (17 * (i + 1) + x) = g (3 + 18 * i + x) := by
  unfold adC
  rw [if_neg (by omega), if_pos (by omega), show (17 * (i + 1) + x - 17) / 17 = i by omega, show (17 * (i + 1) + x - 17) % 17 = x by omega]
theorem adC_2 {h0 : Nat} {f g : Nat → Nat} {i : Nat} (hi : i < 12) : adC h0 f g (221 + i) = g (2 + 18 * i) := by
  unfold adC
  rw [if_neg (by omega), if_neg (by omega), if_pos (by omega), show 221 + i - 221 = i by omega]
theorem ix1 {x : Nat × va_E} {n : Nat} {a : Nat → Nat} {E : (Nat → Nat) → Nat → va_E} {B : va_W} {j : Nat} (h : j < n) : (([x] ++ mkW n a E) ++ B)[1 + j]? = some (a j, E a j) := by
  have e : ([x] ++ mkW n a E).length = 1 + n := by simp [mkW_len]; omega
  rw [List.getElem?_append_left (by omega), List.getElem?_append_right (by simp), show 1 + j - [x].length = j from by simp, mkW_at h]
theorem ix2 {x : Nat × va_E} {n : Nat} {a : Nat → Nat} {E : (Nat → Nat) → Nat → va_E} {B : va_W} {j : Nat} : (([x] ++ mkW n a E) ++ B)[(1 + n) + j]? = B[j]? := by
  have e : ([x] ++ mkW n a E).length = 1 + n := by simp [mkW_len]; omega
  rw [List.getElem?_append_right (by omega), e, show 1 + n + j - (1 + n) = j by omega]
theorem wC_make {D : va_G} {cI cR : ClassId} {h0 : Nat} {f g : Nat → Nat} {A : Nat → Prop} {H : Heap} (hP : va_P D vwCl ([(h0, .inr (5, [.ref (f 0), .ref (g 0)]))] ++ mkW 17 f (EB cI) ++ mkW 218 g (EM cI cR)) H) (hD : va_D A ([(h0, .inr (5, [.ref (f 0), .ref (g 0)]))] ++ mkW 17 f (EB cI) ++ mkW 218 g (EM cI cR))) :
    va_P D vwCl (wC cI cR (adC h0 f g) XZ) H ∧ va_D A (mkW 236 (adC h0 f g) (fun _ _ => .inr (0, []))) := by
  have K : ∀ k, k < 236 → ∃ e9, ([(h0, (.inr (5, [.ref (f 0), .ref (g 0)]) : va_E))] ++ mkW 17 f (EB cI) ++ mkW 218 g (EM cI cR))[ixC k]? = some (adC h0 f g k, e9) ∧ va_at D vwCl (adC h0 f g k, cellC cI cR (adC h0 f g) XZ (k / 17) (k % 17)) H := by
    intro k hk
    by_cases h1 : k < 17
    · have e1 : ixC k = 1 + k := if_pos h1
      have e2 := adC_0 (h0 := h0) (f := f) (g := g) h1
      have e3 := ix1 (x := (h0, (.inr (5, [.ref (f 0), .ref (g 0)]) : va_E))) (a := f) (E := EB cI) (B := mkW 218 g (EM cI cR)) h1
      refine ⟨_, by rw [e1, e2]; exact e3, ?_⟩
      have z := hP _ _ e3
      have e4 : cellC cI cR (adC h0 f g) XZ (k / 17) (k % 17) = EB cI f k := by
        unfold cellC
        rw [show k / 17 = 0 by omega, show k % 17 = k by omega, if_pos (by omega)]
        exact EB_c (fun x hx => adC_0 hx)
      rw [e2, e4]
      exact z
    · by_cases h2 : k < 221
      · obtain ⟨i, j, hi, hj, ek⟩ : ∃ i j : Nat, i < 12 ∧ j < 17 ∧ k = 17 * (i + 1) + j := ⟨(k - 17) / 17, (k - 17) % 17, by omega, by omega, by omega⟩
        have e1 : ixC k = (1 + 17) + (3 + 18 * i + j) := by
          unfold ixC
          rw [if_neg h1, if_pos h2, show (k - 17) / 17 = i by omega, show (k - 17) % 17 = j by omega]
        have e2 : adC h0 f g k = g (3 + 18 * i + j) := by rw [ek]; exact adC_1 hi hj
        have e3 : ([(h0, (.inr (5, [.ref (f 0), .ref (g 0)]) : va_E))] ++ mkW 17 f (EB cI) ++ mkW 218 g (EM cI cR))[(1 + 17) + (3 + 18 * i + j)]? = some (g (3 + 18 * i + j), EM cI cR g (3 + 18 * i + j)) := by
          rw [ix2]
          exact mkW_at (by omega)
        refine ⟨_, by rw [e1, e2]; exact e3, ?_⟩
        have z := hP _ _ e3
        have e4 : cellC cI cR (adC h0 f g) XZ (k / 17) (k % 17) = EM cI cR g (3 + 18 * i + j) := by
          unfold cellC EM EDs ED
          rw [show k / 17 = i + 1 by omega, show k % 17 = j by omega, if_pos (by omega), if_neg (by omega), if_neg (by omega), show (3 + 18 * i + j - 2) % 18 = 1 + j by omega, show (3 + 18 * i + j - 2) / 18 = i by omega, if_neg (by omega), show 1 + j - 1 = j by omega]
          have eX : XZ (i + 1) = B00 := by
            funext a b
            show (if i + 1 < 13 then B00 a b else 0) = B00 a b
            rw [if_pos (by omega)]
          rw [eX]
          unfold EB
          exact bkE_s (fun x hx => by rw [adC_1 hi hx]; show g (3 + 18 * i + x) = g (18 * i + (x + 1) + 2); rw [show 18 * i + (x + 1) + 2 = 3 + 18 * i + x by omega])
        rw [e2, e4]
        exact z
      · by_cases h3 : k < 233
        · obtain ⟨i, hi, ek⟩ : ∃ i : Nat, i < 12 ∧ k = 221 + i := ⟨k - 221, by omega, by omega⟩
          have e1 : ixC k = (1 + 17) + (2 + 18 * i) := by
            unfold ixC
            rw [if_neg h1, if_neg h2, if_pos h3, show k - 221 = i by omega]
          have e2 : adC h0 f g k = g (2 + 18 * i) := by rw [ek]; exact adC_2 hi
          have e3 : ([(h0, (.inr (5, [.ref (f 0), .ref (g 0)]) : va_E))] ++ mkW 17 f (EB cI) ++ mkW 218 g (EM cI cR))[(1 + 17) + (2 + 18 * i)]? = some (g (2 + 18 * i), EM cI cR g (2 + 18 * i)) := by
            rw [ix2]
            exact mkW_at (by omega)
          refine ⟨_, by rw [e1, e2]; exact e3, ?_⟩
          have z := hP _ _ e3
          have e4 : cellC cI cR (adC h0 f g) XZ (k / 17) (k % 17) = EM cI cR g (2 + 18 * i) := by
            unfold cellC EM EDs ED deE
            rw [show k / 17 = 13 by omega, show k % 17 = i by omega, if_neg (by omega), if_neg (by omega), if_neg (by omega), if_neg (by omega), if_neg (by omega), if_neg (by omega), show (2 + 18 * i - 2) % 18 = 0 by omega, show (2 + 18 * i - 2) / 18 = i by omega, if_pos rfl]
            have e5 := adC_1 (h0 := h0) (f := f) (g := g) hi (show 0 < 17 by omega)
            rw [Nat.add_zero] at e5
            rw [e5, show 3 + 18 * i + 0 = 18 * i + 1 + 2 by omega]
            rfl
          rw [e2, e4]
          exact z
        · by_cases h4 : k = 233
          · subst h4
            exact ⟨_, rfl, hP 0 _ rfl⟩
          · by_cases h5 : k = 234
            · subst h5
              exact ⟨_, rfl, hP 18 _ rfl⟩
            · have h6 : k = 235 := by omega
              subst h6
              refine ⟨_, rfl, ?_⟩
              have z : H[g 1]? = some (vp_cell cR (12, .inr (.inr (.inr (.inr (fun i => some (g (2 + 18 * i)))))))) := hP 19 _ rfl
              rw [vp_cell_extq (g := fun i => some (adC h0 f g (221 + i))) (fun j hj => by rw [adC_2 hj])] at z
              exact z
  refine ⟨mkW_P (E := fun ad k => cellC cI cR ad XZ (k / 17) (k % 17)) (fun k hk => (K k hk).elim (fun _ z => z.2)), mkW_D (g := ixC) hD (fun k hk => (K k hk).elim (fun e9 z => ⟨e9, z.1⟩)) (fun i j hi hj e => ?_)⟩
  have h1 := ixC_inv i hi
  rw [e, ixC_inv j hj] at h1
  exact h1.symm
/-- the class's first state -/
noncomputable def X0c : St := sg XZ 0 (b_add (XZ 0) (-9) 0)
set_option maxHeartbeats 4000000 in
set_option maxRecDepth 100000 in
theorem c_X5_init {l : Launch} {D : va_G} {cI cR : ClassId} : MkG l D cI cR 5 [.null, .null] 236 233 (fun ad => wC cI cR ad X0c) yX5_init wsX5_init ({ frames := 5, cells := 235, slots := 5054, locals := 110 } : Room) 235 5054 := by
  refine OfMkG (cc := cX5_init) (maxL := 1) (by decide +kernel) rfl (Nat.le_of_ble_eq_true rfl) (fun h0 p e s m below meth c hx hb hr hts hown hlocks hml hnm hP hD hK hN hO ls hl => ?_)
  have hin : meth.name = "<init>" := hnm
  have hA : ∀ q, s.heap.size ≤ q → Fr h0 s.heap.size q := fun q h => Or.inr h
  have hS : va_S (Fr h0 s.heap.size) s.heap s.heap [] := va_S.rf
  have hi_X5 : ∀ w ∈ wsX50, w ∈ wsX5_init := by decide +kernel
  have hi_X0 : ∀ w ∈ wsX00, w ∈ wsX5_init := by decide +kernel
  have hi_X4 : ∀ w ∈ wsX40, w ∈ wsX5_init := by decide +kernel
  refine lv_aload_n hx hb dX5_init_0 rfl (lv_at hl 0 rfl) ?_
  refine W.objInit hx hb hown (hts (.methodLink RX5 1 objectInit) (by decide +kernel)) (hts (.instanceMethod objectInit) (by decide +kernel)) (hts (.code objectInit ⟨#[0xb1]⟩ 1 none) (List.mem_of_getElem? (i := 3) rfl)) rfl (by rw [hml]; exact hl.1) rfl dX5_init_1 (Nat.le_of_ble_eq_true rfl) (Nat.le_of_ble_eq_true rfl) ?_
  refine W.eq (g2 := F0 m 4 ls []) rfl ?_
  refine lv_aload_n hx hb dX5_init_4 rfl (lv_at hl 0 rfl) ?_
  refine va_new (ci := 0) (fs := [.null, .null, .int 0, .int 0, .int 0, .int 0]) (C := RX0) (T := TX0) (N := 6) hx hb hts hi_X0 tyX0 tyX0_ok hown (hts (.classLink RX5 7 RX0) (by decide +kernel)) (hts (.instantiable RX0 6) (by decide +kernel)) (hts (.initialized RX0) (by decide +kernel)) hK hP hD hS hA rfl (fun j hj => by rcases (show j = 0 ∨ j = 1 ∨ j = 2 ∨ j = 3 ∨ j = 4 ∨ j = 5 by omega) with rfl | rfl | rfl | rfl | rfl | rfl <;> rfl) (Nat.le_of_ble_eq_true rfl) (Nat.le_of_ble_eq_true rfl) dX5_init_5 (fun q5 H hP hD hS => ?_)
  refine lv_dup hx hb dX5_init_8 rfl ?_
  refine callMkN (ws := [(h0, .inr (5, [.null, .null]))]) (rest := [.ref q5, .ref h0]) (n := 17) (E := EB cI) ⟨hx, hb, hml, hown, hts⟩ c_X0_init ⟨va_cnB 0 hts gX5_init_X0_init_n9 rfl rfl rfl hN.1 (hts (.initialized RX0) (by decide +kernel)) (by decide +kernel) ⟨Nat.le_of_ble_eq_true rfl, Nat.le_of_ble_eq_true rfl⟩, rfl, hts (.instanceMethod yX0_init) (by decide +kernel)⟩ hK hN hO hP hD hS hA hl.1 (Nat.le_of_ble_eq_true rfl) dX5_init_9 ⟨Nat.le_of_ble_eq_true rfl, Nat.le_of_ble_eq_true rfl⟩ (fun f H locs hf_f hP1 hD1 hS => ?_)
  subst hf_f
  have hP := hP1
  have hD := hD1
  refine xputF (C := RX5) (T := TX5) (N := 2) (ci := 5) (v := .ref (f 0)) (ty := .object "HeadBudgets$Books") (ws' := [(h0, .inr (5, [.ref (f 0), .null]))] ++ mkW 17 f (EB cI)) hx hb hts hi_X5 tyX5 tyX5_ok nmX5 hown hK hP hD hS 0 rfl rfl 0 (by decide) (hts (.fieldLink RX5 10 "HeadBudgets" "now" "LHeadBudgets$Books;") (by decide +kernel)) rfl hin rfl (by decide +kernel) rfl rfl (Nat.le_of_ble_eq_true rfl) rfl dX5_init_12 (fun H locs hP hD hS => ?_)
  refine lv_aload_n hx hb dX5_init_15 rfl (lv_at hl 0 rfl) ?_
  refine va_new (ci := 4) (fs := [.null, .int 0, .int 0, .int 0]) (C := RX4) (T := TX4) (N := 4) hx hb hts hi_X4 tyX4 tyX4_ok hown (hts (.classLink RX5 16 RX4) (by decide +kernel)) (hts (.instantiable RX4 4) (by decide +kernel)) (hts (.initialized RX4) (by decide +kernel)) hK hP hD hS hA rfl (fun j hj => by rcases (show j = 0 ∨ j = 1 ∨ j = 2 ∨ j = 3 by omega) with rfl | rfl | rfl | rfl <;> rfl) (Nat.le_of_ble_eq_true rfl) (Nat.le_of_ble_eq_true rfl) dX5_init_16 (fun q16 H hP hD hS => ?_)
  refine lv_dup hx hb dX5_init_19 rfl ?_
  refine callMk (ws := [(h0, .inr (5, [.ref (f 0), .null]))] ++ mkW 17 f (EB cI)) (rest := [.ref q16, .ref h0]) (n := 218) (E := EM cI cR) ⟨hx, hb, hml, hown, hts⟩ c_X4_init (cwI 0 hts gX5_init_X4_init rfl rfl rfl (hts (.initialized RX4) (by decide +kernel)) (hts (.methodLink RX5 18 yX4_init) (by decide +kernel)) (hts (.instanceMethod yX4_init) (by decide +kernel)) rfl (by decide +kernel) ⟨Nat.le_of_ble_eq_true rfl, Nat.le_of_ble_eq_true rfl⟩) hK hN hO hP hD hS hA hl.1 (Nat.le_of_ble_eq_true rfl) dX5_init_20 ⟨Nat.le_of_ble_eq_true rfl, Nat.le_of_ble_eq_true rfl⟩ (fun g H locs hf_g hP1 hD1 hS => ?_)
  subst hf_g
  have hP := hP1
  have hD := hD1
  refine xputF (C := RX5) (T := TX5) (N := 2) (ci := 5) (v := .ref (g 0)) (ty := .object "HeadBudgets$Memory") (ws' := [(h0, .inr (5, [.ref (f 0), .ref (g 0)]))] ++ mkW 17 f (EB cI) ++ mkW 218 g (EM cI cR)) hx hb hts hi_X5 tyX5 tyX5_ok nmX5 hown hK hP hD hS 0 rfl rfl 1 (by decide) (hts (.fieldLink RX5 19 "HeadBudgets" "memory" "LHeadBudgets$Memory;") (by decide +kernel)) rfl hin rfl (by decide +kernel) rfl rfl (Nat.le_of_ble_eq_true rfl) rfl dX5_init_23 (fun H locs hP hD hS => ?_)
  obtain ⟨hPC, hDC⟩ := wC_make hP hD
  generalize ead : adC h0 f g = ad at hPC hDC
  have hdj : Dj 236 ad := fun i j hi hj e9 => hDC.1 i j _ _ (mkW_at hi) (mkW_at hj) e9
  have hFr : ∀ k, k < 236 → Fr h0 s.heap.size (ad k) := fun k hk => hDC.2 k _ (mkW_at hk)
  have ef : f 0 = ad 0 := by rw [← ead]; exact (adC_0 (by omega)).symm
  have eh : h0 = ad 233 := by rw [← ead]; rfl
  refine lv_aload_n hx hb dX5_init_26 rfl (lv_at hl 0 rfl) ?_
  refine xget (C := RX5) (T := TX5) (N := 2) (ci := 5) (w := .ref (f 0)) hx hb hts hi_X5 hown hK hP 0 rfl rfl 0 (by decide) (hts (.fieldLink RX5 10 "HeadBudgets" "now" "LHeadBudgets$Books;") (by decide +kernel)) rfl dX5_init_27 ?_
  rw [ef]
  refine xget (C := RX0) (T := TX0) (N := 6) (ci := 0) (w := .ref (ad 1)) hx hb hts hi_X0 hown hK hPC 0 g0_0 rfl 0 (by decide) (hts (.fieldLink RX5 23 "HeadBudgets$Books" "heads" "LHeadBudgets$Heads;") (by decide +kernel)) rfl dX5_init_30 ?_
  refine lv_bipush (v := (-9)) hx hb dX5_init_33 (by decide) ?_
  refine lv_iconst (v := 0) hx hb dX5_init_35 (by decide) ?_
  refine callWE (As := [.int (-9), .int 0]) (rest := []) ⟨hx, hb, hml, hown, hts⟩ (c_X3_add hdj XZ (-9) 0) (cwV 2 hts gX5_init_X3_add rfl rfl rfl (by decide +kernel) ⟨Nat.le_of_ble_eq_true rfl, Nat.le_of_ble_eq_true rfl⟩) hK hN hPC 1 g0_1 rfl rfl hl.1 rfl (Nat.le_of_ble_eq_true rfl) dX5_init_36 ⟨Nat.le_of_ble_eq_true rfl, Nat.le_of_ble_eq_true rfl⟩ hS (fun q h9 => h9.elim (fun k z => by rw [z.2]; exact hFr k z.1)) (fun H locs hPC hS _ _ => ?_)
  refine lv_pop hx hb dX5_init_39 rfl ?_
  refine W.widen (k := 235) (n := 5054) (Nat.le_of_ble_eq_true rfl) (Nat.le_of_ble_eq_true rfl) ?_
  exact retMkG hx hb hr hlocks dX5_init_40 hPC eh.symm hFr hdj hS
