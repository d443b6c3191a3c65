def wo1 (T : Nat → Int32) (j : Nat) (a : Int32) : Int32 := if a < onesF (T j) then onesF (T j) else a
theorem wd_eq {T : Nat → Int32} {m : Nat} (h : ∀ j, j < m → inS (T j)) : foldF (wo1 T) m 0 = foldF (wd1 T) m 0 := foldF_congr (fun j hj x => by
  unfold wo1 wd1
  rw [(bit_ones (h j hj)).1])
def nwO (T : Nat → Int32) : Nat → Int32 × Int32
  | 0 => (-1, 99)
  | j + 1 => (if (nwO T j).2 < onesF (T j) then (nwO T j).1 else T j, if (nwO T j).2 ≤ onesF (T j) then (nwO T j).2 else onesF (T j))
theorem nw_eq {T : Nat → Int32} {m : Nat} (h : ∀ j, j < m → inS (T j)) : ∀ n, n ≤ m → (nwO T n).1 = (nwV T n).1 ∧ (0 < n → (nwO T n).2 = (nwV T n).2) := by
  intro n
  induction n with
  | zero => intro _; exact ⟨rfl, fun q => absurd q (Nat.lt_irrefl 0)⟩
  | succ n ih =>
    intro hn
    obtain ⟨i1, i2⟩ := ih (by omega)
    obtain ⟨bo, k, k18, ok⟩ := bit_ones (h n (by omega))
    have e1 : (nwO T (n + 1)).1 = if (nwO T n).2 < onesF (T n) then (nwO T n).1 else T n := rfl
    have e2 : (nwO T (n + 1)).2 = if (nwO T n).2 ≤ onesF (T n) then (nwO T n).2 else onesF (T n) := rfl
    rcases Nat.eq_zero_or_pos n with z | z
    · subst z
      have x1 : ¬ (nwO T 0).2 < onesF (T 0) := by
        show ¬ (99 : Int32) < _
        rw [ok, show (99 : Int32) = nI 99 from rfl, nI_ltI (by decide) (by omega)]; omega
      have x2 : ¬ (nwO T 0).2 ≤ onesF (T 0) := by
        show ¬ (99 : Int32) ≤ _
        rw [ok, show (99 : Int32) = nI 99 from rfl, nI_leI (by decide) (by omega)]; omega
      have x3 : ¬ (nwV T 0).2 < bitCntF (T 0) := by
        show ¬ (18 : Int32) < _
        rw [bo, ok, show (18 : Int32) = nI 18 from rfl, nI_ltI (by decide) (by omega)]; omega
      rw [e1, e2, nw_take x3, if_neg x1, if_neg x2, bo]
      exact ⟨rfl, fun _ => rfl⟩
    · rw [e1, e2, i2 z, i1, ← bo]
      by_cases c : (nwV T n).2 < bitCntF (T n)
      · rw [nw_keep c, if_pos c, if_pos (Int32.le_of_lt c)]
        exact ⟨rfl, fun _ => rfl⟩
      · rw [nw_take c, if_neg c]
        refine ⟨rfl, fun _ => ?_⟩
        by_cases d : (nwV T n).2 ≤ bitCntF (T n)
        · rw [if_pos d]; exact Int32.le_antisymm d (Int32.not_lt.mp c)
        · rw [if_neg d]
theorem cset_inS {f : Nat → Int32} {k : Nat} (wk : WK f) (hk : k ≤ gf f) {S : Nat → Int32} {D : Nat → Int64} {n : Nat} (r : R64 n S D (PQ f k)) : ∀ j, j < n → inS (cset (PQ f k) j) := fun j hj => by
  have q := wk.bd hk
  have e := cset_eq (R64.to32 q.1 r) j hj
  rw [← e]
  apply q.2
  intro z
  exact (r.2.1 j hj).2 (by rw [(r.2.1 j hj).1, z]; rfl)
theorem sw_m1 {sm : Int64} {P : Int32 → Int} {j : Nat} (h : sm.toInt32 = foldF (sw1 (cset P) (cco P) (-1)) j 0) : (sm + Int64.ofInt (P (cset P j))).toInt32 = foldF (sw1 (cset P) (cco P) (-1)) (j + 1) 0 := by
  have e : cset P j &&& ~~~(-1 : Int32) = 0 := by
    apply bI_inj
    intro i hi
    have m1 : ∀ i, i < 32 → bI (~~~(-1 : Int32)) i = false := by decide +kernel
    rw [bI_and, m1 i hi, bI_zero, Bool.and_false]
  exact sw_step h (if_pos e).symm
