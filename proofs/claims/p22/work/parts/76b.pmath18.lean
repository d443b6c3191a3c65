def pcS (m : Nat) : Nat → Nat
  | 0 => 0
  | k + 1 => pcS m k + (if m.testBit k = true then 1 else 0)
theorem bit_mod (m k : Nat) : (if m.testBit k = true then 1 else 0) = m / 2 ^ k % 2 := by
  rw [Nat.testBit_eq_decide_div_mod_eq]
  by_cases c : m / 2 ^ k % 2 = 1
  · simp [c]
  · simp [c]; omega
theorem pop_S (m : Nat) : pop18 m = pcS m 18 := by
  have e : pcS m 18 = 0 + m / 2 ^ 0 % 2 + m / 2 ^ 1 % 2 + m / 2 ^ 2 % 2 + m / 2 ^ 3 % 2 + m / 2 ^ 4 % 2 + m / 2 ^ 5 % 2 + m / 2 ^ 6 % 2 + m / 2 ^ 7 % 2 + m / 2 ^ 8 % 2 + m / 2 ^ 9 % 2 + m / 2 ^ 10 % 2 + m / 2 ^ 11 % 2 + m / 2 ^ 12 % 2 + m / 2 ^ 13 % 2 + m / 2 ^ 14 % 2 + m / 2 ^ 15 % 2 + m / 2 ^ 16 % 2 + m / 2 ^ 17 % 2 := by
    simp only [pcS, bit_mod]
  rw [e]
  show m % 2 + (m / 2 % 2 + (m / 4 % 2 + (m / 8 % 2 + (m / 16 % 2 + (m / 32 % 2 + (m / 64 % 2 + (m / 128 % 2 + (m / 256 % 2 + (m / 512 % 2 + (m / 1024 % 2 + (m / 2048 % 2 + (m / 4096 % 2 + (m / 8192 % 2 + (m / 16384 % 2 + (m / 32768 % 2 + (m / 65536 % 2 + m / 131072 % 2)))))))))))))))) = _
  simp only [Nat.zero_add, Nat.add_assoc, Nat.reducePow, Nat.div_one]
