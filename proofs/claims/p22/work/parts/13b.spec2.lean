def apR (tL : Int32) : Int32 := if tL < 0 then 0 else if tL < 120 then 1 else 0
def apL (tL : Int32) : Int32 := if tL < 0 then tL else if tL < 120 then tL + 1 else tL
def apB (tL x : Int32) (f : Nat → Int32) : Nat → Int32 := if tL < 0 then f else if tL < 120 then upd f tL.toNatClampNeg (vp_nar .byte x.toInt8.toInt32) else f
def typeF (tL x : Int32) : Int32 := if x < 0 then -2 else if x ≤ 127 then (if tL < 0 then -4 else if tL < 120 then tL + 1 else -4) else -2
theorem type_ok {tL r : Int32} (h : r = apR tL) (hz : ¬ r = 0) : apL tL = if tL < 0 then -4 else if tL < 120 then tL + 1 else -4 := by
  subst h
  unfold apR at hz
  unfold apL
  by_cases q1 : tL < 0
  · rw [if_pos q1] at hz; exact absurd rfl hz
  · rw [if_neg q1] at hz
    by_cases q2 : tL < 120
    · rw [if_neg q1, if_pos q2, if_neg q1, if_pos q2]
    · rw [if_neg q2] at hz; exact absurd rfl hz
theorem type_full {tL r : Int32} (h : r = apR tL) (hz : r = 0) : (-4 : Int32) = if tL < 0 then -4 else if tL < 120 then tL + 1 else -4 := by
  subst h
  unfold apR at hz
  by_cases q1 : tL < 0
  · rw [if_pos q1]
  · rw [if_neg q1] at hz ⊢
    by_cases q2 : tL < 120
    · rw [if_pos q2] at hz; exact absurd hz (by decide)
    · rw [if_neg q2]
def cntF (nB nN nF tL cI cG cO x : Int32) : Int32 := if x.toInt < 0 ∨ 6 < x.toInt then -2 else countF nB nN nF tL cI cG cO x
def adderR (b : Int32) : Int32 := if b < 1 then -2 else if b ≤ 3 then (if b = 1 then 2 else if b = 2 then 7 else 12) else -2
theorem three {b : Int32} (h1 : ¬ b < 1) (h3 : b ≤ 3) : b = 1 ∨ b = 2 ∨ b = 3 := by
  have a := Int32.not_lt.mp h1
  rw [Int32.le_iff_toInt_le] at a h3
  have e1 : (1 : Int32).toInt = 1 := by decide
  have e3 : (3 : Int32).toInt = 3 := by decide
  rw [e1] at a
  rw [e3] at h3
  rcases (show b.toInt = 1 ∨ b.toInt = 2 ∨ b.toInt = 3 by omega) with h | h | h
  · exact Or.inl (Int32.toInt_inj.mp (h.trans e1.symm))
  · exact Or.inr (Or.inl (Int32.toInt_inj.mp (h.trans (by decide))))
  · exact Or.inr (Or.inr (Int32.toInt_inj.mp (h.trans e3.symm)))
def sizeZ (n g : Int32) : Int32 := if n < 1 then 0 else if 6 < n then 0 else if g < 1 then 0 else if 12 < g then 0 else 1
def drawR (x n g : Int32) : Int32 := if x < 0 then -2 else if 999999 < x then -2 else if sizeZ n g = 0 then -2 else g
theorem sizeZ_ok {n g : Int32} (h : ¬ sizeZ n g = 0) : ∃ k : Nat, k ≤ 12 ∧ g = nI k ∧ g.toNatClampNeg = k := by
  unfold sizeZ at h
  by_cases q1 : n < 1
  · rw [if_pos q1] at h; exact absurd rfl h
  · rw [if_neg q1] at h
    by_cases q2 : 6 < n
    · rw [if_pos q2] at h; exact absurd rfl h
    · rw [if_neg q2] at h
      by_cases q3 : g < 1
      · rw [if_pos q3] at h; exact absurd rfl h
      · rw [if_neg q3] at h
        by_cases q4 : 12 < g
        · rw [if_pos q4] at h; exact absurd rfl h
        · have a := Int32.not_lt.mp q3
          have b := Int32.not_lt.mp q4
          rw [Int32.le_iff_toInt_le] at a
          have e1 : (1 : Int32).toInt = 1 := by decide
          rw [e1] at a
          have h0 : ¬ g < 0 := by
            rw [Int32.lt_iff_toInt_lt]
            have e0 : (0 : Int32).toInt = 0 := by decide
            rw [e0]
            omega
          obtain ⟨k, hk, rfl⟩ := nI_of2 (M := 12) (n := 12) (by decide) h0 b
          exact ⟨k, hk, rfl, nI_clamp (by omega)⟩
theorem nI_lt12 {j : Nat} (h : j < 12) : nI j < 12 := nI_lt (b := 12) h (by decide)
