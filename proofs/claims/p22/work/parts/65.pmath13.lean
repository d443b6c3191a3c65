theorem sw_step {sm z : Int64} {P : Int32 → Int} {t : Int32} {j : Nat} (h : sm.toInt32 = foldF (sw1 (cset P) (cco P) t) j 0) (hz : z = if cset P j &&& ~~~t = 0 then Int64.ofInt (P (cset P j)) else 0) : (sm + z).toInt32 = foldF (sw1 (cset P) (cco P) t) (j + 1) 0 := by
  show _ = foldF (sw1 (cset P) (cco P) t) j 0 + (if cset P j &&& ~~~t = 0 then cco P j else 0)
  rw [← h, Int64.toInt32_add, hz]
  by_cases c : cset P j &&& ~~~t = 0
  · rw [if_pos c, if_pos c, Int64.toInt32_ofInt]; rfl
  · rw [if_neg c, if_neg c]; rfl
