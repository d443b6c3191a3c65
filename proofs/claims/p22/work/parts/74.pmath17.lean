/-! ===== how many signals stand in a term ===== -/
def on1 (x : Int32) (j : Nat) (a : Int32) : Int32 := a + ((x >>> (nI j &&& 31)) &&& 1)
def onesF (x : Int32) : Int32 := foldF (on1 x) 18 0
def pop18 (m : Nat) : Nat := Nat.add (Nat.mod m 2) (Nat.add (Nat.mod (Nat.div m 2) 2) (Nat.add (Nat.mod (Nat.div m 4) 2) (Nat.add (Nat.mod (Nat.div m 8) 2) (Nat.add (Nat.mod (Nat.div m 16) 2) (Nat.add (Nat.mod (Nat.div m 32) 2) (Nat.add (Nat.mod (Nat.div m 64) 2) (Nat.add (Nat.mod (Nat.div m 128) 2) (Nat.add (Nat.mod (Nat.div m 256) 2) (Nat.add (Nat.mod (Nat.div m 512) 2) (Nat.add (Nat.mod (Nat.div m 1024) 2) (Nat.add (Nat.mod (Nat.div m 2048) 2) (Nat.add (Nat.mod (Nat.div m 4096) 2) (Nat.add (Nat.mod (Nat.div m 8192) 2) (Nat.add (Nat.mod (Nat.div m 16384) 2) (Nat.add (Nat.mod (Nat.div m 32768) 2) (Nat.add (Nat.mod (Nat.div m 65536) 2) (Nat.mod (Nat.div m 131072) 2)))))))))))))))))
def pcA (m : Nat) : Nat := Nat.sub m (Nat.land (Nat.div m 2) 1431655765)
def pcB (a : Nat) : Nat := Nat.add (Nat.land a 858993459) (Nat.land (Nat.div a 4) 858993459)
def pcD (b : Nat) : Nat := Nat.land (Nat.add b (Nat.div b 16)) 252645135
def pcE (d : Nat) : Nat := Nat.add d (Nat.div d 256)
def pcF (e : Nat) : Nat := Nat.land (Nat.add e (Nat.div e 65536)) 63
def pcN (m : Nat) : Nat := pcF (pcE (pcD (pcB (pcA m))))
def chkR (lo : Nat) : Nat → Bool
  | 0 => true
  | n + 1 => match Nat.beq (pcN (Nat.add lo n)) (pop18 (Nat.add lo n)) with
    | true => chkR lo n
    | false => false
def chkB (lo : Nat) : Nat → Bool
  | 0 => true
  | n + 1 => match chkR (Nat.add lo (Nat.mul 512 n)) 512 with
    | true => chkB lo n
    | false => false
theorem chkR_ok {lo : Nat} : ∀ {n : Nat}, chkR lo n = true → ∀ i, i < n → pcN (lo + i) = pop18 (lo + i)
  | 0, _, i, hi => absurd hi (Nat.not_lt_zero i)
  | n + 1, h, i, hi => by
    have h : (match Nat.beq (pcN (Nat.add lo n)) (pop18 (Nat.add lo n)) with | true => chkR lo n | false => false) = true := h
    cases c : Nat.beq (pcN (Nat.add lo n)) (pop18 (Nat.add lo n)) with
    | true =>
      rw [c] at h
      by_cases e : i = n
      · subst e; exact Nat.eq_of_beq_eq_true c
      · exact chkR_ok h i (by omega)
    | false => rw [c] at h; exact absurd (show false = true from h) (by decide)
theorem chkB_ok {lo : Nat} : ∀ {n : Nat}, chkB lo n = true → ∀ i, i < 512 * n → pcN (lo + i) = pop18 (lo + i)
  | 0, _, i, hi => by omega
  | n + 1, h, i, hi => by
    have h : (match chkR (Nat.add lo (Nat.mul 512 n)) 512 with | true => chkB lo n | false => false) = true := h
    cases c : chkR (Nat.add lo (Nat.mul 512 n)) 512 with
    | true =>
      rw [c] at h
      by_cases l : i < 512 * n
      · exact chkB_ok h i l
      · have := chkR_ok c (i - 512 * n) (by omega)
        have e : Nat.add lo (Nat.mul 512 n) + (i - 512 * n) = lo + i := by
          show lo + 512 * n + (i - 512 * n) = lo + i
          omega
        rw [e] at this
        exact this
    | false => rw [c] at h; exact absurd (show false = true from h) (by decide)
