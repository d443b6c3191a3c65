theorem ty_eq {t : Nat} (ht : t ≤ 120) (x : Int32) : nI (tyM t x) = tyL (nI t) x := by
  have e : (127 : Int32) < x ↔ ¬ x ≤ 127 := Int32.not_le.symm
  have n0 : ¬ nI t < 0 := by
    rw [show (0 : Int32) = nI 0 from rfl, nI_ltI (by omega) (by omega)]
    omega
  unfold tyM tyL inF
  by_cases h1 : x < 0
  · simp [h1]
  · by_cases h2 : x ≤ 127
    · have h3 : ¬ (127 : Int32) < x := fun q => (e.mp q) h2
      rw [if_neg h1, if_neg h1, if_neg h3, if_pos h2, if_neg n0, if_neg (show ¬ (1 : Int32) = 0 by decide)]
      by_cases h4 : t = 120
      · subst h4; rfl
      · have h5 : nI t < 120 := by
          rw [show (120 : Int32) = nI 120 from rfl, nI_ltI (by omega) (by omega)]
          omega
        rw [if_neg h4, if_pos h5]
        exact (nI_1 _).symm
    · have h3 : (127 : Int32) < x := e.mpr h2
      simp [h1, h2, h3]
theorem type_inN {t : Nat} (ht : t ≤ 120) (x : Int32) : typeF (nI t) x = typeM (nI t) x := by
  have e : (127 : Int32) < x ↔ ¬ x ≤ 127 := Int32.not_le.symm
  have n0 : ¬ nI t < 0 := by
    rw [show (0 : Int32) = nI 0 from rfl, nI_ltI (by omega) (by omega)]
    omega
  unfold typeF typeM inF
  by_cases h1 : x < 0
  · simp [h1]
  · by_cases h2 : x ≤ 127
    · have h3 : ¬ (127 : Int32) < x := fun q => (e.mp q) h2
      rw [if_neg h1, if_neg h1, if_neg h3, if_pos h2, if_neg n0, if_neg (show ¬ (1 : Int32) = 0 by decide)]
      by_cases h4 : nI t = 120
      · rw [if_pos h4, h4]; rfl
      · have h5 : nI t < 120 := by
          have := t120 ht h4
          rw [show (120 : Int32) = nI 120 from rfl, nI_ltI (by omega) (by omega)]
          omega
        rw [if_neg h4, if_pos h5]
    · have h3 : (127 : Int32) < x := e.mpr h2
      simp [h1, h2, h3]
theorem adder_in (b : Int32) : adderR b = adderRm b := by
  have e : (3 : Int32) < b ↔ ¬ b ≤ 3 := Int32.not_le.symm
  unfold adderR adderRm inF
  by_cases h1 : b < 1
  · simp [h1]
  · by_cases h2 : b ≤ 3
    · have h3 : ¬ (3 : Int32) < b := fun q => (e.mp q) h2
      simp [h1, h2, h3]
    · have h3 : (3 : Int32) < b := e.mpr h2
      simp [h1, h2, h3]
theorem draw_in (x n g : Int32) : drawR x n g = drawRm x n g := by
  unfold drawR drawRm sizeZ inF
  by_cases h1 : x < 0 <;> by_cases h2 : 999999 < x <;> by_cases h3 : n < 1 <;> by_cases h4 : 6 < n <;> by_cases h5 : g < 1 <;> by_cases h6 : 12 < g <;> simp [h1, h2, h3, h4, h5, h6]
theorem nI_4 (j : Nat) : nI j + Int32.ofInt 4 = nI (j + 4) := by
  rw [show Int32.ofInt 4 = nI 4 by decide]
  exact nI_add j 4
theorem ixL {L : Nat} (k j : Nat) (h : j + k < L) (hL : L < 2 ^ 31) : vp_in (nI j + Int32.ofNat k) L := by
  have e : nI j + Int32.ofNat k = nI (j + k) := nI_add j k
  rw [e]
  exact vp_in_nI h hL
theorem lw_goes {L i : Nat} (hL : L ≤ 2048) (hi : i ≤ 2052) (h : ¬ Int32.ofNat L - 4 < nI i) : i + 4 ≤ L := by
  rcases Nat.lt_or_ge L 4 with q | q
  · exfalso
    apply h
    have e : (Int32.ofNat L - 4).toInt < 0 := by
      rcases (show L = 0 ∨ L = 1 ∨ L = 2 ∨ L = 3 by omega) with rfl | rfl | rfl | rfl <;> decide
    rw [Int32.lt_iff_toInt_lt, nI_toInt (by omega)]
    omega
  · have e : Int32.ofNat L - 4 = nI (L - 4) := pk_sub (a := L) (b := 4) q
    rw [e, nI_ltI (by omega) (by omega)] at h
    omega
