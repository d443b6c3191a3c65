theorem slen_lt {k : Nat} (hk : k < 16) : slen k < 2 ^ 31 := by
  have h : ∀ k, k < 16 → slen k < 2 ^ 31 := by decide
  exact h k hk
theorem str_lo {i : Int32} {n : Nat} (h : vp_in i n) : ¬ i < 0 := fun q => h (Or.inl q)
theorem str_hi {i : Int32} {k : Nat} (hk : k < 16) (h : vp_in i (slen k)) : i < Int32.ofNat (slen k) := by
  obtain ⟨j, hj, rfl⟩ := vp_in_of h (slen_lt hk)
  exact nI_lt hj (slen_lt hk)
theorem str_lt {k j : Nat} (hk : k < 16) (hj : j < 2 ^ 31) (h : ¬ Int32.ofNat (slen k) ≤ nI j) : j < slen k := by
  have h2 : ¬ nI (slen k) ≤ nI j := h
  rw [nI_leI (slen_lt hk) hj] at h2
  omega
theorem str_in {k j : Nat} (hk : k < 16) (hj : j < 2 ^ 31) (h : ¬ Int32.ofNat (slen k) ≤ nI j) : vp_in (nI j) (slen k) := vp_in_nI (str_lt hk hj h) (slen_lt hk)
theorem up_mu {t f : Int32} (h : ¬ t ≤ f) : (t.toInt - (f + 1).toInt).toNat < (t.toInt - f.toInt).toNat := by
  have e1 : (1 : Int32).toInt = 1 := by decide
  have a := Int32.not_le.mp h
  rw [Int32.lt_iff_toInt_lt] at a
  have l1 := Int32.le_toInt f
  have l2 := Int32.toInt_lt t
  have e : (f + 1).toInt = f.toInt + 1 := by
    rw [Int32.toInt_add, e1]
    exact Int.bmod_eq_of_le (by omega) (by omega)
  omega
theorem z01_nar {r : Int32} (h : r = 0 ∨ r = 1) : narrow .boolean (.int r) = .int r := by
  rcases h with rfl | rfl <;> rfl
theorem nI_l12 {j : Nat} (h : j < 12) : nI j < 12 := nI_lt (b := 12) h (by decide)
theorem nI_b6 {j : Nat} (h : j ≤ 6) : 0 ≤ (nI j).toInt ∧ (nI j).toInt ≤ 6 := by
  rw [nI_toInt (by omega)]
  omega
def tyL (t x : Int32) : Int32 := if x < 0 then t else if x ≤ 127 then (if t < 0 then t else if t < 120 then t + 1 else t) else t
