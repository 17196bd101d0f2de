/-! MAKING: a constructor's contract: the new object's cell, then the cells that it makes, in their order -/
def mkW (n : Nat) (a : Nat → Nat) (E : (Nat → Nat) → Nat → va_E) : va_W := (List.range n).map (fun j => (a j, E a j))
theorem mkW_at {n : Nat} {a : Nat → Nat} {E : (Nat → Nat) → Nat → va_E} {j : Nat} (h : j < n) : (mkW n a E)[j]? = some (a j, E a j) := by
  unfold mkW
  rw [List.getElem?_map, List.getElem?_range h]
  rfl
theorem mkW_of {n : Nat} {a : Nat → Nat} {E : (Nat → Nat) → Nat → va_E} {k : Nat} {q : Nat × va_E} (h : (mkW n a E)[k]? = some q) : k < n ∧ q = (a k, E a k) := by
  have h1 : k < (mkW n a E).length := (List.getElem?_eq_some_iff.mp h).1
  have h2 : k < n := by
    unfold mkW at h1
    rw [List.length_map, List.length_range] at h1
    exact h1
  rw [mkW_at h2] at h
  exact ⟨h2, (Option.some.inj h).symm⟩
def Fr (h0 sz : Nat) : Nat → Prop := fun q => q = h0 ∨ sz ≤ q
theorem mk_D {n h0 sz : Nat} {a : Nat → Nat} {E : (Nat → Nat) → Nat → va_E} (h : va_D (Fr h0 sz) (mkW n a E)) (e : a 0 = h0) : (∀ j, 1 ≤ j → j < n → sz ≤ a j) ∧ Dj n a := by
  have d : Dj n a := fun i j hi hj e2 => h.1 i j _ _ (mkW_at hi) (mkW_at hj) e2
  refine ⟨fun j h1 h2 => ?_, d⟩
  rcases h.2 j _ (mkW_at h2) with z | z
  · have := d j 0 h2 (by omega) (by rw [e]; exact z)
    omega
  · exact z
def PkC (D : va_G) (cI cR : ClassId) (h0 sz ci : Nat) (fs0 : List Value) : Array Value → State → Prop := va_Pc [.ref h0] (fun U => U.heap.size = sz ∧ va_P D vwCl [(h0, .inr (ci, fs0))] U.heap ∧ va_K D vwCl (tysC cI cR) U ∧ Nst U ∧ va_AO "HeadBudgets$Deed" U)
def QkC (D : va_G) (h0 sz n : Nat) (E : (Nat → Nat) → Nat → va_E) : Array Value → State → Outcome → State → Prop := va_Qv (S := Nat → Nat) (fun a => a 0 = h0 ∧ (∀ j, 1 ≤ j → j < n → sz ≤ a j) ∧ Dj n a) (fun a t => va_P D vwCl (mkW n a E) t.heap) (Fr h0 sz)
def MkC (l : Launch) (D : va_G) (cI cR : ClassId) (ci : Nat) (fs0 : List Value) (n : Nat) (E : (Nat → Nat) → Nat → va_E) (y : MethodName) (wds : List Cond) (rm : Room) (mc ms : Nat) : Prop :=
  ∀ h0 sz : Nat, Met l y wds rm (PkC D cI cR h0 sz ci fs0) (QkC D h0 sz n E) mc ms (Fr h0 sz)
theorem PkC.blind {D : va_G} {cI cR : ClassId} {h0 sz ci : Nat} {fs0 : List Value} : FrameBlind (PkC D cI cR h0 sz ci fs0) := fun a U g mk q => by
  obtain ⟨q0, q1, qP, qK, qN, qO⟩ := q
  exact ⟨q0, q1, qP, va_K.moved (u := U) (U := U.calling g mk a) (Vm.Alike.refl U.vm) qK, Nst.same (u := U) (U := U.calling g mk a) rfl qN, va_AO.moved (u := U) (U := U.calling g mk a) (Vm.Alike.refl U.vm) qO⟩
theorem PkC.at {D : va_G} {cI cR : ClassId} {h0 ci : Nat} {fs0 : List Value} {s : State} {H : Heap} (hP : va_P D vwCl [(h0, .inr (ci, fs0))] H) (hK : va_K D vwCl (tysC cI cR) s) (hN : Nst s) (hO : va_AO "HeadBudgets$Deed" s) : ∀ U : State, U.heap = H → s.WarmedH U.vm → PkC D cI cR h0 H.size ci fs0 [Value.ref h0].toArray U :=
  fun U hU hW => ⟨rfl, by rw [hU], by rw [hU]; exact hP, va_K.moved hW.alike hK, hN.warm hW, va_AO.moved hW.alike hO⟩
theorem OfMk {l : Launch} {D : va_G} {cI cR : ClassId} {ci n : Nat} {fs0 : List Value} {E : (Nat → Nat) → Nat → va_E} {y : MethodName} {wds wds' : List Cond} {rm : Room} {mc ms : Nat} {cc : ByteArray} {maxL : Nat}
    (hy : plainName y.cls = true) (hw : wds = Cond.code y cc maxL none :: wds') (hlen : 1 ≤ maxL)
    (body : ∀ (h0 : Nat) (p : Program) (e : Env) (s : State) (m : MethodId) (below : List Frame) (meth : Method) (c : Code), p.tables.exec = Jvm.exec → c.code = cc → meth.sig.returnType = none → (∀ w ∈ wds, w.before [Value.ref h0].toArray s = true) → s.vm.findClass y.cls = some m.cls → meth.locks = false → c.maxLocals = maxL → meth.name = y.name → va_P D vwCl [(h0, .inr (ci, fs0))] s.heap → va_D (Fr h0 s.heap.size) [(h0, .inr (ci, fs0))] → va_K D vwCl (tysC cI cR) s → Nst s → va_AO "HeadBudgets$Deed" s → ∀ ls : Array Slot, lv_has ls maxL [(0, .ref h0)] →
      W p l e rm s m [Value.ref h0].toArray below meth c s.heap [] 0 0 (MQ below (QkC D h0 s.heap.size n E) [Value.ref h0].toArray s mc ms (Fr h0 s.heap.size)) (F0 m 0 ls [])) : MkC l D cI cR ci fs0 n E y wds rm mc ms := by
  intro h0 sz
  refine Met.ofW (cc := cc) (maxL := maxL) (ret := none) hy hw ?_
  intro p e s m args below meth c s₁ B hml hv
  obtain ⟨rfl, hsz, hP, hK, hN, hO⟩ := hv
  subst hsz
  have hl := lv_entry [Value.ref h0] (n := maxL) hlen
  rw [lg_entry_eq]
  have hD : va_D (Fr h0 s.heap.size) [(h0, .inr (ci, fs0))] := by
    refine ⟨fun i j p q hi hj _ => ?_, fun k q hk => ?_⟩
    · have h1 := (List.getElem?_eq_some_iff.mp hi).1
      have h2 := (List.getElem?_eq_some_iff.mp hj).1
      simp only [List.length_cons, List.length_nil] at h1 h2
      omega
    · have h1 := (List.getElem?_eq_some_iff.mp hk).1
      simp only [List.length_cons, List.length_nil] at h1
      have hk0 : k = 0 := by omega
      subst hk0
      cases hk
      exact Or.inl rfl
  exact body h0 p e s m below meth c B.exec B.bytes B.returns (atoms_spec (ws := wds) B.pre) (findClass_of_methodNamed B.named) B.notSynchronized hml (name_of_methodNamed B.named B.method).1 hP hD hK hN hO _ hl
theorem arr_I {D : va_G} {cI cR cA : ClassId} {s : State} (h0 : va_K D vwCl (tysC cI cR) s) (h1 : va_K D vwCl (tysC cI cR ++ [(cA, .int)]) s) : cA = cI := by
  have a := (h0.2 0 _ rfl).2
  have b := (h1.2 2 _ rfl).2
  exact Option.some.inj (Eq.trans b.symm a)
theorem arr_R {D : va_G} {cI cR cA : ClassId} {s : State} (h0 : va_K D vwCl (tysC cI cR) s) (h1 : va_K D vwCl (tysC cI cR ++ [(cA, .object "HeadBudgets$Deed")]) s) : cA = cR := by
  obtain ⟨_, _, _, _, _, a⟩ := (h0.2 1 _ rfl).2
  obtain ⟨_, _, _, _, _, b⟩ := (h1.2 2 _ rfl).2
  exact Option.some.inj (Eq.trans b.symm a)
section
variable {p : Program} {l : Launch} {e : Env} {R : Room} {s : State} {m : MethodId} {args : Array Value} {below : List Frame} {meth : Method} {c : Code} {H H0 : Heap} {locs : List Loc} {cells slots : Nat} {Q : State → Prop}
variable {cc bytes : ByteArray} {pc nL maxL index n : Nat} {ls : Array Slot} {rest st0 : List Value} {D : va_G} {cI cR : ClassId} {ws ws' : va_W} {A : Nat → Prop} {a b h0 : Nat} {own C : String} {y : MethodName} {wds Ts : List Cond} {rm : Room} {E : (Nat → Nat) → Nat → va_E}
theorem retMk {mc ms : Nat} {f : Nat → Nat} (hx : p.tables.exec = Jvm.exec) (hb : c.code = cc) (hr : meth.sig.returnType = none) (hlocks : meth.locks = false) (hdg : decode cc pc = .ok (.return_, 1)) (hP : va_P D vwCl (mkW n f E) H) (hD : va_D (Fr h0 s.heap.size) (mkW n f E)) (e0 : f 0 = h0) (hS : va_S (Fr h0 s.heap.size) s.heap H locs) :
    W p l e R s m args below meth c H locs mc ms (MQ below (QkC D h0 s.heap.size n E) args s mc ms (Fr h0 s.heap.size)) (F0 m pc ls []) :=
  W.vret hx hb hr (fun t ht _ => ⟨⟨f, rfl, ⟨e0, mk_D hD e0⟩, (by show va_P D vwCl (mkW n f E) t.heap; rw [ht]; exact hP)⟩, hS.F ht⟩) hS.2.2 hdg hlocks
theorem xnewa {N' : Nat} (hx : p.tables.exec = Jvm.exec) (hb : c.code = cc) (harr : (Cond.arrayClass .int).before args s = true) (hK : va_K D vwCl (tysC cI cR) s) (hP : va_P D vwCl ws H) (hD : va_D A ws) (hS : va_S A H0 H locs) (hA : ∀ q, H0.size ≤ q → A q)
    {k : Int32} (hn : ¬ k < 0) (hN : k.toNatClampNeg = N') (hbytes : N' * componentBytes .int ≤ 536870912) (hcells : cells + 1 ≤ R.cells) (hslots : slots + N' ≤ R.slots) (hdg : decode cc pc = .ok (.newarray .int, 2))
    (kk : ∀ (q : Nat) (H1 : Heap), va_P D vwCl (ws ++ [(q, .inl (cI, N', .inl (fun _ => 0)))]) H1 → va_D A (ws ++ [(q, .inl (cI, N', .inl (fun _ => 0)))]) → va_S A H0 H1 locs →
      W p l e R s m args below meth c H1 locs (cells + 1) (slots + N') Q (F0 m (pc + 2) ls (.ref q :: rest))) : W p l e R s m args below meth c H locs cells slots Q (F0 m pc ls (.int k :: rest)) :=
  va_newa (atype := .int) (ty := .int) (n := k) (N' := N') (a0 := (N', .inl (fun _ => (0 : Int32)))) hx hb harr rfl hK hP hD hS hA (fun cA => vp_cell_i cA N' (fun _ => (0 : Int32))) hn hN hbytes hcells hslots hdg (fun q cA H1 hK1 hP1 hD1 hS1 => by
    have e : cA = cI := arr_I hK hK1
    rw [e] at hP1 hD1
    exact kk q H1 hP1 hD1 hS1)
theorem xputF {T : u_T} {N ci : Nat} {fs : List Value} {v : Value} {ty : FieldType} (hx : p.tables.exec = Jvm.exec) (hb : c.code = cc) (hts : ∀ w ∈ Ts, w.before args s = true) (hin : ∀ w ∈ u_ws C T N, w ∈ Ts) (ty0 : Nat → FieldType) (hty : ∀ k, k < N → parseFieldDescriptor (T k).2.2.1 = some (ty0 k)) (hnm : ∀ a, a < N → ∀ b, b < N → a ≠ b → (T a).2.1 ≠ (T b).2.1) (hown : s.vm.findClass C = some m.cls) (hK : va_K D vwCl (tysC cI cR) s) (hP : va_P D vwCl ws H) (hD : va_D A ws) (hS : va_S A H0 H locs) (q0 : Nat) (he : ws[q0]? = some (a, .inr (ci, fs))) (hc : vwCl[ci]? = some (C, T, N)) (k : Nat) (hk : k < N) (hlink : (Cond.fieldLink C index (T k).1 (T k).2.1 (T k).2.2.1).before args s = true) (hfin : (T k).2.2.2 = true) (hin2 : meth.name = "<init>") (hdecl : (T k).1 = C) (hd : parseFieldDescriptor (T k).2.2.1 = some ty) (hnr : narrow ty v = v) (hfit : fits ty v = true) (hl : k < fs.length) (hset : ws.set q0 (a, .inr (ci, fs.set k v)) = ws') (hdg : decode cc pc = .ok (.putfield index, 3))
    (kk : ∀ (H1 : Heap) (locs1 : List Loc), va_P D vwCl ws' H1 → va_D A ws' → va_S A H0 H1 locs1 → W p l e R s m args below meth c H1 locs1 cells slots Q (F0 m (pc + 3) ls rest)) : W p l e R s m args below meth c H locs cells slots Q (F0 m pc ls (v :: .ref a :: rest)) :=
  va_putF hx hb hts hin ty0 hty hnm hown hK hP hD hS q0 he hc k hk hlink (fun _ h9 => h9) hfin hin2 hdecl hd hnr hfit hl hdg (fun H1 locs1 h1 h2 h3 => kk H1 locs1 (by rw [← hset]; exact h1) (by rw [← hset]; exact h2) h3)
/-- after a constructor of the world's last cell: the cells that it made join the world -/
theorem mk_join {f : Nat → Nat} {e0 : va_E} {H1 : Heap} (hP : va_P D vwCl (ws ++ [(b, e0)]) H) (hD : va_D A (ws ++ [(b, e0)])) (h0 : f 0 = b) (hj : ∀ j, 1 ≤ j → j < n → H.size ≤ f j) (hd : Dj n f)
    (hk : ∀ q, q < H.size → ¬ Fr b H.size q → H1[q]? = H[q]?) (hA : ∀ q, H.size ≤ q → A q) (hW : va_P D vwCl (mkW n f E) H1) : va_P D vwCl (ws ++ mkW n f E) H1 ∧ va_D A (ws ++ mkW n f E) := by
  have hl : ∀ (i : Nat) (q : Nat × va_E), ws[i]? = some q → (ws ++ [(b, e0)])[i]? = some q ∧ i < ws.length := fun i q hi => by
    have h1 := (List.getElem?_eq_some_iff.mp hi).1
    exact ⟨by rw [List.getElem?_append_left h1]; exact hi, h1⟩
  have hz : (ws ++ [(b, e0)])[ws.length]? = some (b, e0) := by rw [List.getElem?_append_right (Nat.le_refl _), Nat.sub_self]; rfl
  have hne : ∀ (i : Nat) (q : Nat × va_E), ws[i]? = some q → q.1 ≠ b ∧ q.1 < H.size := fun i q hi => by
    have h1 := hl i q hi
    refine ⟨fun z => ?_, (hP i q h1.1).lt⟩
    have := hD.1 i ws.length _ _ h1.1 hz z
    omega
  have hAb : A b := hD.2 _ _ hz
  refine ⟨?_, ?_⟩
  · refine va_P.app (fun i q hi => (hP i q (hl i q hi).1).kept (hk _ (hne i q hi).2 (fun z => ?_))) hW
    rcases z with z | z
    · exact (hne i q hi).1 z
    · have := (hne i q hi).2
      omega
  · refine va_D.app ⟨fun i j x y hi hj e => hD.1 i j x y (hl i x hi).1 (hl j y hj).1 e, fun i q hi => hD.2 i q (hl i q hi).1⟩ ⟨fun i j x y hi hj e => ?_, fun i q hi => ?_⟩ (fun i j x y hi hj2 e => ?_)
    · obtain ⟨a1, rfl⟩ := mkW_of hi
      obtain ⟨a2, rfl⟩ := mkW_of hj
      exact hd i j a1 a2 e
    · obtain ⟨a1, rfl⟩ := mkW_of hi
      by_cases z : i = 0
      · subst z
        show A (f 0)
        rw [h0]
        exact hAb
      · exact hA _ (hj i (by omega) a1)
    · obtain ⟨a2, rfl⟩ := mkW_of hj2
      have q := hne i x hi
      by_cases z : j = 0
      · subst z
        exact q.1 (e.trans h0)
      · have := hj j (by omega) a2
        have e2 : x.1 = f j := e
        omega
/-- a constructor of the nest is called -/
theorem callMkN {host : String} {ci mc ms : Nat} {fs0 : List Value} (S : CallFix p m c cc nL s args Ts own) (hM : MkC l D cI cR ci fs0 n E y wds rm mc ms) (cw : va_CN R s args own index y host bytes maxL none wds rm mc ms 0 ∧ y.name = "<init>" ∧ (Cond.instanceMethod y).before args s = true) (hK : va_K D vwCl (tysC cI cR) s) (hN : Nst s) (hO : va_AO "HeadBudgets$Deed" s) (hP : va_P D vwCl (ws ++ [(b, .inr (ci, fs0))]) H) (hD : va_D A (ws ++ [(b, .inr (ci, fs0))])) (hS : va_S A H0 H locs) (hA : ∀ q, H0.size ≤ q → A q) (hsize : ls.size = nL) (hW : (rest.map fun v => v.category).sum ≤ 8) (hdg : decode cc pc = .ok (.invokespecial index, 3)) (hf : cells + mc ≤ R.cells ∧ slots + ms ≤ R.slots)
    (kk : ∀ (f : Nat → Nat) (H1 : Heap) (locs1 : List Loc), f 0 = b → va_P D vwCl (ws ++ mkW n f E) H1 → va_D A (ws ++ mkW n f E) → va_S A H0 H1 locs1 → W p l e R s m args below meth c H1 locs1 (cells + mc) (slots + ms) Q (F0 m (pc + 3) ls rest)) : W p l e R s m args below meth c H locs cells slots Q (F0 m pc ls (.ref b :: rest)) := by
  have hz : (ws ++ [(b, (.inr (ci, fs0) : va_E))])[ws.length]? = some (b, .inr (ci, fs0)) := by rw [List.getElem?_append_right (Nat.le_refl _), Nat.sub_self]; rfl
  have hA2 : ∀ q, H.size ≤ q → A q := fun q h => hA q (Nat.le_trans hS.1 h)
  have hF : ∀ q, Fr b H.size q → A q := fun q h => h.elim (fun z => by rw [z]; exact hD.2 _ _ hz) (hA2 q)
  have hPb : va_P D vwCl [(b, (.inr (ci, fs0) : va_E))] H := fun k q hk => by
    have h1 := (List.getElem?_eq_some_iff.mp hk).1
    simp only [List.length_cons, List.length_nil] at h1
    have hk0 : k = 0 := by omega
    subst hk0
    cases hk
    exact hP _ _ hz
  exact va_callv (va_runIN (As := []) S (hM b H.size) cw ⟨PkC.blind, PkC.at hPb hK hN hO⟩ rfl rfl hsize rfl (lv_room hW) hdg hf) hS (fun q _ h => hF q h) hF (fun u t H1 locs1 ht _ hr hB hz2 hk2 hS1 => by
    rw [ht] at hB
    have j := mk_join hP hD hr.1 hr.2.1 hr.2.2 hk2 hA2 hB
    exact kk u H1 locs1 hr.1 j.1 j.2 hS1)
/-- a constructor is called by its own name -/
theorem callMk {ci mc ms : Nat} {fs0 : List Value} (S : CallFix p m c cc nL s args Ts own) (hM : MkC l D cI cR ci fs0 n E y wds rm mc ms) (cw : CallB R s args own index y bytes maxL none wds rm mc ms 0 ∧ y.name = "<init>" ∧ (Cond.instanceMethod y).before args s = true) (hK : va_K D vwCl (tysC cI cR) s) (hN : Nst s) (hO : va_AO "HeadBudgets$Deed" s) (hP : va_P D vwCl (ws ++ [(b, .inr (ci, fs0))]) H) (hD : va_D A (ws ++ [(b, .inr (ci, fs0))])) (hS : va_S A H0 H locs) (hA : ∀ q, H0.size ≤ q → A q) (hsize : ls.size = nL) (hW : (rest.map fun v => v.category).sum ≤ 8) (hdg : decode cc pc = .ok (.invokespecial index, 3)) (hf : cells + mc ≤ R.cells ∧ slots + ms ≤ R.slots)
    (kk : ∀ (f : Nat → Nat) (H1 : Heap) (locs1 : List Loc), f 0 = b → va_P D vwCl (ws ++ mkW n f E) H1 → va_D A (ws ++ mkW n f E) → va_S A H0 H1 locs1 → W p l e R s m args below meth c H1 locs1 (cells + mc) (slots + ms) Q (F0 m (pc + 3) ls rest)) : W p l e R s m args below meth c H locs cells slots Q (F0 m pc ls (.ref b :: rest)) := by
  have hz : (ws ++ [(b, (.inr (ci, fs0) : va_E))])[ws.length]? = some (b, .inr (ci, fs0)) := by rw [List.getElem?_append_right (Nat.le_refl _), Nat.sub_self]; rfl
  have hA2 : ∀ q, H.size ≤ q → A q := fun q h => hA q (Nat.le_trans hS.1 h)
  have hF : ∀ q, Fr b H.size q → A q := fun q h => h.elim (fun z => by rw [z]; exact hD.2 _ _ hz) (hA2 q)
  have hPb : va_P D vwCl [(b, (.inr (ci, fs0) : va_E))] H := fun k q hk => by
    have h1 := (List.getElem?_eq_some_iff.mp hk).1
    simp only [List.length_cons, List.length_nil] at h1
    have hk0 : k = 0 := by omega
    subst hk0
    cases hk
    exact hP _ _ hz
  exact va_callv (va_runI (As := []) S (hM b H.size) cw ⟨PkC.blind, PkC.at hPb hK hN hO⟩ rfl rfl hsize rfl (lv_room hW) hdg hf) hS (fun q _ h => hF q h) hF (fun u t H1 locs1 ht _ hr hB hz2 hk2 hS1 => by
    rw [ht] at hB
    have j := mk_join hP hD hr.1 hr.2.1 hr.2.2 hk2 hA2 hB
    exact kk u H1 locs1 hr.1 j.1 j.2 hS1)
end
