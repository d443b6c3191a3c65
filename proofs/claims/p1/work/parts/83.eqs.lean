/-! ===== class and reference, where no circuit is ===== -/
theorem i_lt {n : Nat} {m : Nat} (x : Int32) (hm : m < 2 ^ 31) (h : n + 1 = m) : (Int32.ofNat m ≤ x) = (Int32.ofNat n < x) := by
  have e1 : (Int32.ofNat m).toInt = (m : Int) := nI_toInt hm
  have e2 : (Int32.ofNat n).toInt = (n : Int) := nI_toInt (by omega)
  rw [Int32.le_iff_toInt_le, Int32.lt_iff_toInt_lt, e1, e2]
  apply propext
  omega
theorem ref_none (z : Int32) : refusalF 0 z = noneF z := by
  unfold refusalF noneF
  by_cases h : z = 0
  · rw [if_pos h, if_pos h]
  · rw [if_neg h, if_neg h, if_pos rfl]
theorem gate_in (g i : Int32) : isGateF 0 g i = inF i 0 11 := by
  unfold isGateF inF
  rw [if_pos rfl]
  simp only [show ((12 : Int32) ≤ i) = ((11 : Int32) < i) from i_lt (n := 11) (m := 12) i (by decide) rfl]
theorem place_in (g i : Int32) : isPlaceF 0 g i = inF i 0 6 := by
  unfold isPlaceF inF
  rw [if_pos rfl]
  simp only [show ((7 : Int32) ≤ i) = ((6 : Int32) < i) from i_lt (n := 6) (m := 7) i (by decide) rfl]
theorem signal_in (a g i : Int32) : isSignalF 0 a g i = inF i 0 17 := by
  unfold isSignalF inF
  rw [if_pos rfl]
  simp only [show ((18 : Int32) ≤ i) = ((17 : Int32) < i) from i_lt (n := 17) (m := 18) i (by decide) rfl]
theorem ahead_in (a g i : Int32) : isAheadF 0 a g i = inF i 0 17 := by
  unfold isAheadF inF
  rw [if_pos rfl]
  simp only [show ((18 : Int32) ≤ i) = ((17 : Int32) < i) from i_lt (n := 17) (m := 18) i (by decide) rfl]
theorem stage_in (g i : Int32) : isStageF 0 g i = inF i 0 12 := by
  unfold isStageF inF
  rw [if_pos rfl]
theorem inputs_in (g i : Int32) : isInputsF 0 g i = inF i 0 63 := by
  unfold isInputsF inF
  rw [if_pos rfl, show ((1 : Int32) <<< ((6 : Int32) &&& 31)) = 64 by decide]
  simp only [show ((64 : Int32) ≤ i) = ((63 : Int32) < i) from i_lt (n := 63) (m := 64) i (by decide) rfl]
theorem may_in (g i : Int32) : mayPutF 0 g i = inF i 0 7 := by
  unfold mayPutF inF
  by_cases h : i < 0
  · rw [if_pos h, if_pos h]
  · have e : ((8 : Int32) ≤ i) = ((7 : Int32) < i) := i_lt (n := 7) (m := 8) i (by decide) rfl
    rw [if_neg h, if_neg h]
    by_cases h2 : i < 8
    · rw [if_pos h2, if_pos rfl, if_neg (fun q => absurd (e.mpr q) (Int32.not_le.mpr h2))]
    · rw [if_neg h2, if_pos (e.mp (Int32.not_lt.mp h2))]
theorem in01 (i : Int32) : inF i 0 1 = if i = 0 then 1 else if i = 1 then 1 else 0 := by
  have e0 : (0 : Int32).toInt = 0 := by decide
  have e1 : (1 : Int32).toInt = 1 := by decide
  unfold inF
  simp only [Int32.lt_iff_toInt_lt, ← Int32.toInt_inj, e0, e1]
  by_cases h0 : i.toInt = 0
  · rw [if_pos h0, if_neg (by omega), if_neg (by omega)]
  · by_cases h1 : i.toInt = 1
    · rw [if_neg h0, if_pos h1, if_neg (by omega), if_neg (by omega)]
    · rw [if_neg h0, if_neg h1]
      by_cases h2 : i.toInt < 0
      · rw [if_pos h2]
      · rw [if_neg h2, if_pos (by omega)]
theorem way_in (g i : Int32) : isWayF 0 g i = inF i 0 1 := by
  rw [in01]
  unfold isWayF
  rw [if_pos rfl]
theorem wrong_in (i : Int32) : zWrong i = inF i 0 1 := by
  rw [in01]
  rfl
theorem most_in (i : Int32) : zMost i = inF i 0 2 := rfl
theorem of_in (a x : Int32) : zOf a x = zAnd a (inF x 0 3) := by
  unfold zOf zAnd inF
  by_cases h1 : a = 0 <;> by_cases h2 : x < 0 <;> by_cases h3 : 3 < x <;> simp [h1, h2, h3]
theorem runs_in (a x : Int32) : zRuns a x = zAnd a (inF x 0 1) := by
  rw [in01]
  unfold zRuns zAnd
  by_cases h1 : a = 0 <;> by_cases h2 : x = 0 <;> by_cases h3 : x = 1 <;> simp [h1, h2, h3]
theorem term_in (a j x : Int32) : zTerm a j x = zDear2 a j (inF x 0 1) := by
  rw [in01]
  unfold zTerm zDear2
  by_cases h1 : a = 0 <;> by_cases h4 : j < 0 <;> by_cases h2 : x = 0 <;> by_cases h3 : x = 1 <;> simp [h1, h2, h3, h4]
theorem told_in (x i : Int32) : zTold (inF i 0 6) x i = zToldM x i := by
  unfold zTold zToldM
  by_cases h1 : x = 0
  · rw [if_pos h1, if_pos h1]
  · rw [if_neg h1, if_neg h1]
    unfold inF
    by_cases h2 : x < 1 <;> by_cases h3 : 3 < x <;> simp [h2, h3]
theorem type_in (x : Int32) : typeF 0 x = typeM 0 x := by
  have e : (127 : Int32) < x ↔ ¬ x ≤ 127 := Int32.not_le.symm
  unfold typeF typeM inF
  by_cases h1 : x < 0
  · simp [h1]
  · by_cases h2 : x ≤ 127
    · have h3 : ¬ (127 : Int32) < x := fun q => (e.mp q) h2
      simp [h1, h2, h3]
    · have h3 : (127 : Int32) < x := e.mpr h2
      simp [h1, h2, h3]
theorem adder_in (b : Int32) : adderR b = adderRm b := by
  have e : (3 : Int32) < b ↔ ¬ b ≤ 3 := Int32.not_le.symm
  unfold adderR adderRm inF
  by_cases h1 : b < 1
  · simp [h1]
  · by_cases h2 : b ≤ 3
    · have h3 : ¬ (3 : Int32) < b := fun q => (e.mp q) h2
      simp [h1, h2, h3]
    · have h3 : (3 : Int32) < b := e.mpr h2
      simp [h1, h2, h3]
theorem draw_in (x n g : Int32) : drawR x n g = drawRm x n g := by
  unfold drawR drawRm sizeZ inF
  by_cases h1 : x < 0 <;> by_cases h2 : 999999 < x <;> by_cases h3 : n < 1 <;> by_cases h4 : 6 < n <;> by_cases h5 : g < 1 <;> by_cases h6 : 12 < g <;> simp [h1, h2, h3, h4, h5, h6]
theorem count_in (x : Int32) : cntF 0 0 0 0 0 0 0 x = cntM (fun _ => 0) 0 (fun _ => 0) x := by
  have e0 : (0 : Int32).toInt = 0 := by decide
  have e6 : (6 : Int32).toInt = 6 := by decide
  have z1 : countF 0 0 0 0 0 0 0 x = 0 := by unfold countF; simp
  have z2 : countM (fun _ => 0) 0 (fun _ => 0) x = 0 := by unfold countM; simp
  unfold cntF cntM inF
  rw [z1, z2]
  simp only [Int32.lt_iff_toInt_lt, e0, e6]
  by_cases h1 : x.toInt < 0 <;> by_cases h2 : 6 < x.toInt <;> simp [h1, h2]
theorem lw_small {L : Nat} (h : L ≤ 4) : Int32.ofNat L - 4 < 4 := by
  rcases (show L = 0 ∨ L = 1 ∨ L = 2 ∨ L = 3 ∨ L = 4 by omega) with rfl | rfl | rfl | rfl | rfl <;> decide
theorem lw_four {L : Nat} (h : L ≤ 4) (q : ¬ Int32.ofNat L - 4 < 0) : L = 4 := by
  rcases (show L = 0 ∨ L = 1 ∨ L = 2 ∨ L = 3 ∨ L = 4 by omega) with rfl | rfl | rfl | rfl | rfl
  · exact absurd (by decide) q
  · exact absurd (by decide) q
  · exact absurd (by decide) q
  · exact absurd (by decide) q
  · rfl
