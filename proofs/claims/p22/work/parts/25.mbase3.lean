theorem dig_lt {t j : Nat} {f : Nat → Int32} (ht : t ≤ 120) (hj : j < 2 ^ 31) (h : ¬ inF (byteAtM (nI t) f (nI j)) 48 57 = 0) : j < t := by
  unfold byteAtM at h
  by_cases q : nI t ≤ nI j
  · rw [if_pos q] at h; exact absurd (by decide) h
  · rw [nI_leI (by omega) hj] at q; omega
theorem wd_ne (i : Nat) : ¬ wdF 73 i = -1 := by
  unfold wdF
  by_cases h : i < 73
  · rw [if_pos h]
    have e : ∀ i, i < 73 → ¬ wordsL.getD i 0 = -1 := by decide
    exact e i h
  · rw [if_neg h]; decide
def okM (d : Nat → Int32) : Prop := ∃ n g o p q : Nat, d 0 = nI n ∧ n ≤ 6 ∧ d 1 = nI g ∧ g ≤ 12 ∧ d 2 = nI o ∧ o ≤ 7 ∧ d 4 = nI p ∧ p ≤ 6 ∧ d 5 = nI q ∧ q ≤ 6
theorem okM.of {a b : Nat → Int32} (h : okM a) (e : ∀ i, i < 6 → b i = a i) : okM b := by
  obtain ⟨n, g, o, p, q, h0, n6, h1, g12, h2, o7, h4, p6, h5, q6⟩ := h
  exact ⟨n, g, o, p, q, (e 0 (by omega)).trans h0, n6, (e 1 (by omega)).trans h1, g12, (e 2 (by omega)).trans h2, o7, (e 4 (by omega)).trans h4, p6, (e 5 (by omega)).trans h5, q6⟩
theorem okM.upd {a : Nat → Int32} (h : okM a) {k : Nat} (hk : 6 ≤ k) (v : Int32) : okM (upd a k v) := h.of (fun i hi => pk_un (by omega))
theorem in_p {m n : Int32} (h1 : ¬ inF m 1 6 = 0) (h2 : ¬ inF n 1 m = 0) : ∃ p : Nat, n = nI p ∧ p ≤ 6 := by
  obtain ⟨M, a, b, e⟩ := inF_ok (lo := 1) (hi := 6) rfl rfl (by decide) (by decide) h1
  obtain ⟨N, a2, b2, e2⟩ := inF_ok (lo := 1) (hi := M) rfl e (by omega) a h2
  exact ⟨N, e2, by omega⟩
theorem in_q {m n q : Int32} (h1 : ¬ inF m 1 6 = 0) (h2 : ¬ inF n 1 m = 0) (h3 : ¬ inF q 0 (m - n) = 0) : ∃ p : Nat, q = nI p ∧ p ≤ 6 := by
  obtain ⟨M, a, b, e⟩ := inF_ok (lo := 1) (hi := 6) rfl rfl (by decide) (by decide) h1
  obtain ⟨N, a2, b2, e2⟩ := inF_ok (lo := 1) (hi := M) rfl e (by omega) a h2
  obtain ⟨K, a3, b3, e3⟩ := inF_ok (lo := 0) (hi := M - N) rfl (by rw [e, e2]; exact pk_sub b2) (by omega) (by omega) h3
  exact ⟨K, e3, by omega⟩
theorem in_n {m : Int32} (h1 : ¬ inF m 1 6 = 0) : ∃ p : Nat, m = nI p ∧ p ≤ 6 := by
  obtain ⟨M, a, b, e⟩ := inF_ok (lo := 1) (hi := 6) rfl rfl (by decide) (by decide) h1
  exact ⟨M, e, b⟩
theorem nlt12 {j : Nat} (hj : j < 2 ^ 31) (h : ¬ (12 : Int32) ≤ nI j) : j < 12 := by
  rw [show (12 : Int32) = nI 12 from rfl, nI_leI (by decide) hj] at h
  omega
theorem ne7 {j : Nat} (hj : j ≤ 7) (h : ¬ nI j = 7) : j < 7 := by
  rcases Nat.lt_or_ge j 7 with q | q
  · exact q
  · exact absurd (by rw [show j = 7 by omega]; rfl) h
def gateD (fD d : Nat → Int32) (gN : Nat) : Prop := d 1 = nI (gN + 1) ∧ d 0 = fD 0 ∧ d 2 = fD 2
def outD (fD d : Nat → Int32) : Prop := (∃ o : Nat, d 2 = nI o ∧ o ≤ 7) ∧ d 1 = fD 1 ∧ d 0 = fD 0
def taskD (fD d : Nat → Int32) : Prop := (∃ p : Nat, d 4 = nI p ∧ p ≤ 6) ∧ (∃ p : Nat, d 5 = nI p ∧ p ≤ 6) ∧ d 0 = fD 0 ∧ d 1 = fD 1 ∧ d 2 = fD 2
theorem okM_all {gg aa : Nat} {dd d1 d2 : Nat → Int32} {r1 r2 : Int32} (hI : gg ≤ 12 ∧ aa ≤ 120 ∧ dd 1 = nI gg ∧ dd 2 = nI 0 ∧ ¬ inF (dd 0) 1 6 = 0) (h1 : ¬ r1 = 0 → outD dd d1) (h2 : ¬ r2 = 0 → taskD d1 d2) (c1 : ¬ r1 = 0) (c2 : ¬ r2 = 0) : okM d2 := by
  obtain ⟨g12, _, e1, _, e0⟩ := hI
  obtain ⟨⟨o, ho, o7⟩, f1, f0⟩ := h1 c1
  obtain ⟨⟨p, hp, p6⟩, ⟨q, hq, q6⟩, k0, k1, k2⟩ := h2 c2
  obtain ⟨n, hn, n6⟩ := in_n e0
  exact ⟨n, gg, o, p, q, (k0.trans f0).trans hn, n6, (k1.trans f1).trans e1, g12, k2.trans ho, o7, hp, p6, hq, q6⟩
theorem gateD3 {f : Nat → Int32} {g : Nat} {a b c : Int32} : gateD f (upd (upd (upd (upd f (6 + g) a) (18 + g) b) (30 + g) c) 1 (nI (g + 1))) g := by
  refine ⟨pk_us, ?_, ?_⟩
  · rw [pk_un (by omega), pk_un (by omega), pk_un (by omega), pk_un (by omega)]
  · rw [pk_un (by omega), pk_un (by omega), pk_un (by omega), pk_un (by omega)]
theorem gateD4 {f : Nat → Int32} {g : Nat} {a b c d : Int32} : gateD f (upd (upd (upd (upd (upd f (6 + g) a) (18 + g) b) (30 + g) c) (30 + g) d) 1 (nI (g + 1))) g := by
  refine ⟨pk_us, ?_, ?_⟩
  · rw [pk_un (by omega), pk_un (by omega), pk_un (by omega), pk_un (by omega), pk_un (by omega)]
  · rw [pk_un (by omega), pk_un (by omega), pk_un (by omega), pk_un (by omega), pk_un (by omega)]
theorem up_le {h u : Nat → Int32} {j i : Nat} (hh : ∀ i, i < j → h i = u i) (hi : i < j + 1) : upd h j (u j) i = u i := by
  by_cases e : i = j
  · subst e; exact pk_us
  · rw [pk_un e]; exact hh i (by omega)
