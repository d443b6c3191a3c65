theorem inS_nI {t : Int32} (h : inS t) : ∃ m, m < 262144 ∧ t = nI m := by
  have h2 := mem_allS.mpr h
  unfold allS at h2
  obtain ⟨m, hm, e⟩ := List.mem_map.mp h2
  exact ⟨m, List.mem_range.mp hm, e.symm⟩
theorem bit_ones {t : Int32} (h : inS t) : bitCntF t = onesF t ∧ ∃ k, k ≤ 18 ∧ onesF t = nI k := by
  obtain ⟨m, hm, e⟩ := inS_nI h
  subst e
  have o : onesF (nI m) = nI (pcS m 18) := ones_S 18 (Nat.le_refl 18)
  refine ⟨?_, pcS m 18, pcS_le m 18, o⟩
  rw [bc_pc hm, pc_all hm, pop_S, o]
