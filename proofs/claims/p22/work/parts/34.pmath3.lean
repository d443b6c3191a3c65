/-! ===== the first one's signs ===== -/
theorem sortO_eq (c : Int32) : sortOfF c = sortF c := by
  have e : ∀ c, sortL c = slF c := by
    intro c
    unfold sortL slF
    by_cases h1 : c < 97
    · rw [if_pos h1, if_pos h1]; rfl
    · rw [if_neg h1, if_neg h1]
      by_cases h2 : c ≤ 122
      · rw [if_pos h2, if_neg (Int32.not_lt.mpr h2)]
      · rw [if_neg h2, if_pos (Int32.not_le.mp h2)]; rfl
  unfold sortOfF sortF
  rw [e]
theorem byteAtC {t j : Nat} {f : Nat → Int32} (ht : t ≤ 120) (hj : j < 2 ^ 31) : byteAtF (nI t) f (nI j) = bA t f j := by
  unfold byteAtF bA
  rw [if_neg (by rw [show (0 : Int32) = nI 0 from rfl, nI_ltI hj (by decide)]; omega)]
  by_cases h : j < t
  · rw [if_neg (by rw [nI_leI (by omega) hj]; omega), if_neg (by rw [show (120 : Int32) = nI 120 from rfl, nI_leI (by decide) hj]; omega), if_pos h, nI_clamp hj]
  · rw [if_pos (by rw [nI_leI (by omega) hj]; omega), if_neg h]
theorem sk_end {t : Nat} {f : Nat → Int32} {a k : Nat} (h1 : a ≤ k) (h2 : k ≤ t) (h3 : ∀ j, a ≤ j → j < k → bA t f j = 32) (h : t ≤ k) : k = sk t f a := sk_uniq h1 (by rw [bA_out h]; decide) h3
theorem rw_step {t : Nat} {f : Nat → Int32} {s : Int32} {a k : Nat} (h : ∀ j, a ≤ j → j < k → j < t ∧ sortF (f j) = s) (hk : k < t) (hs : sortF (bA t f k) = s) : ∀ j, a ≤ j → j < k + 1 → j < t ∧ sortF (f j) = s := fun j h1 h2 => by
  rcases Nat.lt_or_ge j k with q | q
  · exact h j h1 q
  · rw [show j = k by omega]
    rw [bA_in hk] at hs
    exact ⟨hk, hs⟩
theorem adv_end {t : Nat} {f : Nat → Int32} {b k e : Nat} {z : Int32} (hk : (sortF (bA t f b) = 0 ∧ k = b) ∨ (¬ sortF (bA t f b) = 0 ∧ k = b + 1)) (hz : (z = 1 ∧ (sortF (bA t f b) = 1 ∨ sortF (bA t f b) = 2)) ∨ (z = 0 ∧ ¬ (sortF (bA t f b) = 1 ∨ sortF (bA t f b) = 2))) (h1 : k ≤ e) (h2 : ∀ j, k ≤ j → j < e → j < t ∧ sortF (f j) = sortF (bA t f b)) (h3 : z = 0 → e = k) (hx : z = 0 ∨ t ≤ e ∨ ¬ sortF (bA t f e) = sortF (bA t f b)) : e = toB t f b := by
  unfold toB
  rcases hk with ⟨s0, kb⟩ | ⟨s0, kb⟩
  · rw [if_pos s0]
    have hz0 : z = 0 := by
      rcases hz with ⟨_, q⟩ | ⟨q, _⟩
      · rw [s0] at q
        rcases q with q | q <;> exact absurd q (by decide)
      · exact q
    rw [h3 hz0]; exact kb
  · rw [if_neg s0]
    rcases hz with ⟨z1, q⟩ | ⟨z0, q⟩
    · rw [if_pos q]
      subst kb
      refine rn_uniq h1 h2 ?_
      rcases hx with x | x | x
      · rw [z1] at x; exact absurd x (by decide)
      · exact Or.inl x
      · by_cases et : e < t
        · rw [bA_in et] at x; exact Or.inr x
        · exact Or.inl (by omega)
    · rw [if_neg q, h3 z0]; exact kb
def kj (k : Nat) : Nat := [12, 13, 0, 1, 2, 3, 4, 5, 6, 7, 14, 15, 8, 9, 10, 11].getD k 0
theorem kj_lt : ∀ k, k < 16 → kj k < 16 := by decide
theorem slen_w : ∀ k, k < 16 → slen k = wln (kj k) := by decide
theorem ch_w : ∀ k, k < 16 → ∀ i, i < slen k → ((sbyt k i &&& 255).toUInt32 % 65536).toInt32 = wch (kj k) i := by decide
theorem cw_yes {t : Nat} {f : Nat → Int32} {k b j : Nat} (hk : k < 16) (h1 : sortF (bA t f b) = 1) (h2 : nI (toB t f b - b) = Int32.ofNat (slen k)) (hb : toB t f b < 2 ^ 31) (hj : slen k ≤ j) (h3 : ∀ i, i < j → bA t f (b + i) = wch (kj k) i) : CW t f (kj k) b := by
  have h2 : toB t f b - b = slen k := nI_inj (by omega) (by have := wln_le (kj k) (kj_lt k hk); rw [slen_w k hk]; omega) h2
  have := toB_ge t f b
  rw [slen_w k hk] at h2 hj
  exact (cw_tok (kj_lt k hk)).mpr ⟨h1, by omega, fun i hi => h3 i (by omega)⟩
theorem cw_to {t : Nat} {f : Nat → Int32} {j a : Nat} (hj : j < 16) (h : CW t f j (sk t f a)) : tkW t f j a = some (toB t f (sk t f a)) := by
  rw [((cw_tok hj).mp h).2.1]
  exact if_pos h
theorem cw_len {t : Nat} {f : Nat → Int32} {k b : Nat} (hk : k < 16) (h2 : ¬ nI (toB t f b - b) = Int32.ofNat (slen k)) : ¬ CW t f (kj k) b := fun q => h2 (by
  have := ((cw_tok (kj_lt k hk)).mp q).2.1
  rw [slen_w k hk]
  show nI _ = nI _
  congr 1
  omega)
theorem cw_sort {t : Nat} {f : Nat → Int32} {j b : Nat} (hj : j < 16) (h : ¬ sortF (bA t f b) = 1) : ¬ CW t f j b := fun q => h ((cw_tok hj).mp q).1
theorem toB_semi {t : Nat} {f : Nat → Int32} {b : Nat} (h : bA t f b = 59) : toB t f b = b + 1 := by
  unfold toB
  rw [h]
  rfl
theorem semi_to {t : Nat} {f : Nat → Int32} {a : Nat} (h : bA t f (sk t f a) = 59) : tkS t f a = some (toB t f (sk t f a)) := by
  rw [toB_semi h]
  exact tkS_yes h
theorem semi_sort {t : Nat} {f : Nat → Int32} {a : Nat} (h : ¬ sortF (bA t f (sk t f a)) = 3) : tkS t f a = none := tkS_no (fun q => h (by rw [q]; rfl))
theorem inF_lo {v lo hi : Int32} (h : v < lo) : inF v lo hi = 0 := if_pos h
theorem inF_hi {v lo hi : Int32} (h1 : ¬ v < lo) (h : ¬ v ≤ hi) : inF v lo hi = 0 := by
  unfold inF
  rw [if_neg h1, if_pos (Int32.not_le.mp h)]
theorem inF_ok1 {v lo hi : Int32} (h1 : ¬ v < lo) (h : v ≤ hi) : ¬ inF v lo hi = 0 := by
  unfold inF
  rw [if_neg h1, if_neg (Int32.not_lt.mpr h)]
  decide
theorem ne_m1 {v lo : Int32} (h0 : ¬ lo < 0) (h : ¬ v < lo) : ¬ v = -1 := fun e => by
  subst e
  rw [Int32.lt_iff_toInt_lt] at h h0
  rw [show (-1 : Int32).toInt = -1 by decide] at h
  rw [show (0 : Int32).toInt = 0 by decide] at h0
  omega
theorem two_le {t : Nat} {f : Nat → Int32} {b : Nat} (hb : toB t f b < 2 ^ 31) (h : nI (toB t f b - b) ≤ 2) : toB t f b ≤ b + 2 := by
  rw [show (2 : Int32) = nI 2 from rfl, nI_leI (by omega) (by decide)] at h
  omega
theorem two_gt {t : Nat} {f : Nat → Int32} {b : Nat} (hb : toB t f b < 2 ^ 31) (h : ¬ nI (toB t f b - b) ≤ 2) : ¬ toB t f b ≤ b + 2 := by
  rw [show (2 : Int32) = nI 2 from rfl, nI_leI (by omega) (by decide)] at h
  omega
theorem kind_step {t : Nat} {f : Nat → Int32} {lo b n : Nat} (h : ∀ j, lo ≤ j → j < lo + n → ¬ CW t f j b) (hn : ¬ CW t f (lo + n) b) : ∀ j, lo ≤ j → j < lo + (n + 1) → ¬ CW t f j b := fun j h1 h2 => by
  rcases Nat.lt_or_ge j (lo + n) with q | q
  · exact h j h1 q
  · rw [show j = lo + n by omega]; exact hn
theorem str_ge {k j : Nat} (hk : k < 16) (hj : j < 2 ^ 31) (h : Int32.ofNat (slen k) ≤ nI j) : slen k ≤ j := by
  have e : nI (slen k) ≤ nI j := h
  rw [nI_leI (by have := wln_le (kj k) (kj_lt k hk); rw [slen_w k hk]; omega) hj] at e
  exact e
theorem kj_gate {j : Nat} (h : j < 8) : kj (j + 2) = 0 + j := by
  have e : ∀ j, j < 8 → kj (j + 2) = 0 + j := by decide
  exact e j h
theorem kj_task {j : Nat} (h : j < 4) : kj (j + 12) = 8 + j := by
  have e : ∀ j, j < 4 → kj (j + 12) = 8 + j := by decide
  exact e j h
theorem kt_le {t : Nat} {f : Nat → Int32} {b k : Nat} (hb : b ≤ t) (h : (sortF (bA t f b) = 0 ∧ k = b) ∨ (¬ sortF (bA t f b) = 0 ∧ k = b + 1)) : k ≤ t := by
  rcases h with ⟨_, e⟩ | ⟨q, e⟩
  · rw [e]; exact hb
  · have := (sort_bA q rfl).1
    omega
