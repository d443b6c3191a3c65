theorem ixA (k j : Nat) (h : k + j < 49) : vp_in (Int32.ofNat k + nI j) 49 := by
  have e : Int32.ofNat k + nI j = nI (k + j) := nI_add k j
  rw [e]
  exact vp_in_nI h (by decide)
theorem sub1 {t : Nat} (h : ¬ nI t ≤ 0) : nI t - 1 = nI (t - 1) ∧ 0 < t := by
  have h0 : 0 < t := by
    rcases Nat.eq_zero_or_pos t with q | q
    · subst q; exact absurd (by decide) h
    · exact q
  exact ⟨pk_sub (b := 1) h0, h0⟩
theorem dec1 {t : Nat} (h : 0 < t) : nI t + Int32.ofInt (-1) = nI (t - 1) := sb_m1 h
theorem bt_ok {t j : Nat} (ht : t ≤ 120) (hj : j < 2 ^ 31) (h : ¬ nI t ≤ nI j) : vp_in (nI j) 120 := by
  rw [nI_leI (by omega) hj] at h
  exact vp_in_nI (by omega) (by decide)
theorem bt_lt {t j : Nat} {f : Nat → Int32} {x : Int32} (ht : t ≤ 120) (hj : j < 2 ^ 31) (h : byteAtM (nI t) f (nI j) = x) (hx : ¬ x = -1) : j < t := by
  unfold byteAtM at h
  by_cases q : nI t ≤ nI j
  · rw [if_pos q] at h; exact absurd h.symm hx
  · rw [nI_leI (by omega) hj] at q; omega
theorem gt40 {n : Nat} (hn : n ≤ 200) (h : ¬ 40 < nI n) : n ≤ 40 := by
  rw [show (40 : Int32) = nI 40 from rfl, nI_ltI (by decide) (by omega)] at h
  omega
theorem bn_ex (k : Int32) {pN qN : Nat} (hp : pN ≤ 6) (hq : qN ≤ 6) : ∃ bN : Nat, bN ≤ 6 ∧ (k = 1 → nI qN = nI bN) ∧ (¬ k = 1 → k = 2 → nI pN = nI bN) ∧ (¬ k = 1 → ¬ k = 2 → (1 : Int32) = nI bN) := by
  by_cases h1 : k = 1
  · exact ⟨qN, hq, fun _ => rfl, fun h => absurd h1 h, fun h => absurd h1 h⟩
  · by_cases h2 : k = 2
    · exact ⟨pN, hp, fun h => absurd h h1, fun _ _ => rfl, fun _ h => absurd h2 h⟩
    · exact ⟨1, by omega, fun h => absurd h h1, fun _ h => absurd h h2, fun _ _ => rfl⟩
theorem sub2 {a j : Nat} (h : j < a) : nI a - 1 - nI j = nI (a - 1 - j) := by
  have e : nI a - 1 = nI (a - 1) := pk_sub (b := 1) (by omega)
  rw [e]
  exact pk_sub (by omega)
