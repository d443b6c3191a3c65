theorem pc_0 : chkB 0 16 = true := by decide +kernel
theorem pc_1 : chkB 8192 16 = true := by decide +kernel
theorem pc_2 : chkB 16384 16 = true := by decide +kernel
theorem pc_3 : chkB 24576 16 = true := by decide +kernel
theorem pc_4 : chkB 32768 16 = true := by decide +kernel
theorem pc_5 : chkB 40960 16 = true := by decide +kernel
theorem pc_6 : chkB 49152 16 = true := by decide +kernel
theorem pc_7 : chkB 57344 16 = true := by decide +kernel
theorem pc_8 : chkB 65536 16 = true := by decide +kernel
theorem pc_9 : chkB 73728 16 = true := by decide +kernel
theorem pc_10 : chkB 81920 16 = true := by decide +kernel
theorem pc_11 : chkB 90112 16 = true := by decide +kernel
theorem pc_12 : chkB 98304 16 = true := by decide +kernel
theorem pc_13 : chkB 106496 16 = true := by decide +kernel
theorem pc_14 : chkB 114688 16 = true := by decide +kernel
theorem pc_15 : chkB 122880 16 = true := by decide +kernel
theorem pc_16 : chkB 131072 16 = true := by decide +kernel
theorem pc_17 : chkB 139264 16 = true := by decide +kernel
theorem pc_18 : chkB 147456 16 = true := by decide +kernel
theorem pc_19 : chkB 155648 16 = true := by decide +kernel
theorem pc_20 : chkB 163840 16 = true := by decide +kernel
theorem pc_21 : chkB 172032 16 = true := by decide +kernel
theorem pc_22 : chkB 180224 16 = true := by decide +kernel
theorem pc_23 : chkB 188416 16 = true := by decide +kernel
theorem pc_24 : chkB 196608 16 = true := by decide +kernel
theorem pc_25 : chkB 204800 16 = true := by decide +kernel
theorem pc_26 : chkB 212992 16 = true := by decide +kernel
theorem pc_27 : chkB 221184 16 = true := by decide +kernel
theorem pc_28 : chkB 229376 16 = true := by decide +kernel
theorem pc_29 : chkB 237568 16 = true := by decide +kernel
theorem pc_30 : chkB 245760 16 = true := by decide +kernel
theorem pc_31 : chkB 253952 16 = true := by decide +kernel
theorem pc_all {m : Nat} (h : m < 262144) : pcN m = pop18 m := by
  have key : ∀ k, m / 8192 = k → chkB (k * 8192) 16 = true → pcN m = pop18 m := fun k e c => by
    have := chkB_ok c (m - k * 8192) (by omega)
    rw [show k * 8192 + (m - k * 8192) = m by omega] at this
    exact this
  have hk : m / 8192 < 32 := by omega
  rcases (show m / 8192 = 0 ∨ m / 8192 = 1 ∨ m / 8192 = 2 ∨ m / 8192 = 3 ∨ m / 8192 = 4 ∨ m / 8192 = 5 ∨ m / 8192 = 6 ∨ m / 8192 = 7 ∨ m / 8192 = 8 ∨ m / 8192 = 9 ∨ m / 8192 = 10 ∨ m / 8192 = 11 ∨ m / 8192 = 12 ∨ m / 8192 = 13 ∨ m / 8192 = 14 ∨ m / 8192 = 15 ∨ m / 8192 = 16 ∨ m / 8192 = 17 ∨ m / 8192 = 18 ∨ m / 8192 = 19 ∨ m / 8192 = 20 ∨ m / 8192 = 21 ∨ m / 8192 = 22 ∨ m / 8192 = 23 ∨ m / 8192 = 24 ∨ m / 8192 = 25 ∨ m / 8192 = 26 ∨ m / 8192 = 27 ∨ m / 8192 = 28 ∨ m / 8192 = 29 ∨ m / 8192 = 30 ∨ m / 8192 = 31 by omega) with c | c | c | c | c | c | c | c | c | c | c | c | c | c | c | c | c | c | c | c | c | c | c | c | c | c | c | c | c | c | c | c
  · exact key 0 c pc_0
  · exact key 1 c pc_1
  · exact key 2 c pc_2
  · exact key 3 c pc_3
  · exact key 4 c pc_4
  · exact key 5 c pc_5
  · exact key 6 c pc_6
  · exact key 7 c pc_7
  · exact key 8 c pc_8
  · exact key 9 c pc_9
  · exact key 10 c pc_10
  · exact key 11 c pc_11
  · exact key 12 c pc_12
  · exact key 13 c pc_13
  · exact key 14 c pc_14
  · exact key 15 c pc_15
  · exact key 16 c pc_16
  · exact key 17 c pc_17
  · exact key 18 c pc_18
  · exact key 19 c pc_19
  · exact key 20 c pc_20
  · exact key 21 c pc_21
  · exact key 22 c pc_22
  · exact key 23 c pc_23
  · exact key 24 c pc_24
  · exact key 25 c pc_25
  · exact key 26 c pc_26
  · exact key 27 c pc_27
  · exact key 28 c pc_28
  · exact key 29 c pc_29
  · exact key 30 c pc_30
  · exact key 31 c pc_31
