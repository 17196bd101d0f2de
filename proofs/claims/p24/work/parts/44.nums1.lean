/-! THE LAW's low, and the counts that it takes -/
theorem nI_ofI {x : Int32} (h : 0 ≤ x.toInt) : ∃ a : Nat, x = nI a ∧ a < 2 ^ 31 ∧ (a : Int) = x.toInt := by
  have h2 := Int32.toInt_lt x
  refine ⟨x.toInt.toNat, ?_, by omega, by omega⟩
  rw [i3_eq, nI_toInt (by omega)]
  omega
theorem low_t {v n : Int32} (hn : 0 < n.toInt) : 0 ≤ ((v &&& 2147483647) - (v &&& 2147483647) / n * n).toInt ∧ ((v &&& 2147483647) - (v &&& 2147483647) / n * n).toInt < n.toInt := by
  have hu : 0 ≤ (v &&& 2147483647).toInt := by
    refine Int.not_lt.mp (fun q => ?_)
    have h1 := (i3_neg _).mp q
    rw [Int32.toBitVec_and, BitVec.msb_and, show (2147483647 : Int32).toBitVec.msb = false from rfl, Bool.and_false] at h1
    exact absurd h1 (by decide)
  obtain ⟨a, ea, ha, ha2⟩ := nI_ofI hu
  obtain ⟨d, ed, hd, hd2⟩ := nI_ofI (Int.le_of_lt hn)
  rw [ea, ed, pk_rem ha (by omega) hd]
  have hm := Nat.mod_lt a (show 0 < d by omega)
  rw [nI_toInt (by omega), nI_toInt (by omega)]
  omega
theorem low_nz {n : Int32} (hn : 0 < n.toInt) : ¬ n = 0 := by
  intro z
  rw [z, t_0] at hn
  omega
section
variable {K : Int} {r : Bk} {n : Int32}
theorem cnt_pos (o : Ok K r) : 0 < (v_count r n 1).toInt := by
  have h := o.S.1
  rw [vc_1]
  omega
theorem cnt_pos1 (o : Ok K r) : 0 < (v_count r n 1 + 1).toInt := by
  have h := o.S.1
  rw [vc_1, ad_t (by rw [t_1]; omega), t_1]
  omega
theorem cnt2_pos (o : Ok K r) : 0 < (1 + v_count r n 2).toInt := by
  have h := o.N.1
  rw [vc_2, ad_t (by rw [t_1]; omega), t_1]
  omega
end
