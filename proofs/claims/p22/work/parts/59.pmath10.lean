theorem reach_inv {f q1 q2 q3 s d e1 e2 e3 : Nat → Int32} {g o p q tt vv n n0 : Nat} {v9 n2 : Int32} (hk : tt ≤ g) (hg : g ≤ 12) (hb : v9 = 0) (ht : tt = vv) (h : SK f g o p q vv v9 q1 q2 q3) (r : R32 n s d (PK f g o p q tt)) (hq : (40 < n ∧ n2 = 1 ∧ n0 = vv ∧ e1 = q1 ∧ e2 = q2 ∧ e3 = q3) ∨ (n ≤ 40 ∧ n0 = tt + 1 ∧ n2 = v9 ∧ e1 = upd q1 tt (nI n) ∧ e2 = blkF q2 s (40 * tt) n ∧ e3 = blkF q3 d (40 * tt) n)) : SK f g o p q n0 n2 e1 e2 e3 ∧ (tt + 1 = n0 ∨ (n2 = 1 ∧ tt + 1 = n0 + 1)) := by
  subst ht
  rcases hq with ⟨a, b, c, x, y, z⟩ | ⟨a, b, c, x, y, z⟩
  · subst b c x y z
    exact ⟨h.full hk a r, Or.inr ⟨rfl, rfl⟩⟩
  · subst b c x y z
    exact ⟨h.more hk hg hb a r, Or.inl rfl⟩
theorem reach_end {f a b c : Nat → Int32} {g o p q k tt vv : Nat} {v9 r : Int32} (hk : k ≤ g) (hg : g ≤ 12) (hI : tt ≤ 14 ∧ SK f g o p q vv v9 a b c ∧ (tt = vv ∨ (v9 = 1 ∧ tt = vv + 1))) (hx : nI k < nI tt ∨ 13 ≤ nI tt ∨ ¬ v9 = 0) (hr : (r = 1 ∧ ¬ nI vv ≤ nI k) ∨ (r = 0 ∧ nI vv ≤ nI k)) : (r = 1 ∧ k < vv) ∨ (r = 0 ∧ vv ≤ k ∧ v9 = 1) := by
  obtain ⟨h14, hs, ht⟩ := hI
  have hv := hs.1
  rcases hr with ⟨hr, h⟩ | ⟨hr, h⟩
  · rw [nI_leI (by omega) (by omega)] at h
    exact Or.inl ⟨hr, by omega⟩
  · rw [nI_leI (by omega) (by omega)] at h
    refine Or.inr ⟨hr, h, ?_⟩
    rcases ht with ht | ht
    · rcases hx with hx | hx | hx
      · rw [nI_ltI (by omega) (by omega)] at hx; omega
      · rw [show (13 : Int32) = nI 13 from rfl, nI_leI (by decide) (by omega)] at hx; omega
      · rcases hs.2.2 with w | w
        · exact absurd w hx
        · exact w.1
    · exact ht.1
