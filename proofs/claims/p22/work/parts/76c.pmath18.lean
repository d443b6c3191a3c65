theorem ones_S {m : Nat} : ∀ k, k ≤ 18 → foldF (on1 (nI m)) k 0 = nI (pcS m k)
  | 0, _ => rfl
  | k + 1, h => by
    show foldF (on1 (nI m)) k 0 + ((nI m >>> (nI k &&& 31)) &&& 1) = nI (pcS m k + _)
    rw [ones_S k (by omega), shr1 _ (by omega), bI_nI (by omega), ← nI_add]
    congr 1
    unfold b01
    by_cases c : m.testBit k = true
    · rw [if_pos c, if_pos c]; rfl
    · rw [if_neg c, if_neg c]; rfl
theorem pcS_le (m : Nat) : ∀ k, pcS m k ≤ k
  | 0 => Nat.le_refl 0
  | k + 1 => by
    have := pcS_le m k
    show pcS m k + _ ≤ k + 1
    split <;> omega
