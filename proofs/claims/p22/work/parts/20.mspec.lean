/-! ===== the reference's words ===== -/
def inF (v lo hi : Int32) : Int32 := if v < lo then 0 else if hi < v then 0 else 1
def thereM (f : Nat → Int32) : Int32 := if f 0 ≤ 0 then 0 else 1
def noneF (z : Int32) : Int32 := if z = 0 then -2 else -3
def typeM (t x : Int32) : Int32 := if inF x 0 127 = 0 then -2 else if t = 120 then -4 else t + 1
def byteAtM (t : Int32) (f : Nat → Int32) (k : Int32) : Int32 := if t ≤ k then -1 else f k.toNatClampNeg
def zeroF : Nat → (Nat → Int32) → (Nat → Int32)
  | 0, f => f
  | j + 1, f => upd (zeroF j f) j 0
def laysF (f : Nat → Int32) (j : Nat) (k x y : Int32) : Nat → Int32 := upd (upd (upd (upd f (6 + j) k) (18 + j) x) (30 + j) (if k = 0 then -1 else y)) 1 (nI (j + 1))
def outsF (f : Nat → Int32) (o : Nat) (x : Int32) : Nat → Int32 := upd (upd f (42 + o) x) 2 (nI (o + 1))
def begF (n t p q : Int32) (f : Nat → Int32) : Nat → Int32 := upd (upd (upd (upd (zeroF 49 f) 0 n) 3 t) 4 p) 5 q
theorem zeroF_in {f : Nat → Int32} {i : Nat} : ∀ {n : Nat}, i < n → zeroF n f i = 0
  | 0, h => absurd h (Nat.not_lt_zero i)
  | n + 1, h => by
    show upd (zeroF n f) n 0 i = 0
    by_cases e : i = n
    · subst e; exact pk_us
    · rw [pk_un e]; exact zeroF_in (by omega)
theorem laysF_1 {f : Nat → Int32} {j : Nat} {k x y : Int32} : laysF f j k x y 1 = nI (j + 1) := pk_us
theorem laysF_0 {f : Nat → Int32} {j : Nat} {k x y : Int32} : laysF f j k x y 0 = f 0 := by
  unfold laysF
  rw [pk_un (by omega), pk_un (by omega), pk_un (by omega), pk_un (by omega)]
theorem laysF_2 {f : Nat → Int32} {j : Nat} {k x y : Int32} : laysF f j k x y 2 = f 2 := by
  unfold laysF
  rw [pk_un (by omega), pk_un (by omega), pk_un (by omega), pk_un (by omega)]
theorem outsF_2 {f : Nat → Int32} {o : Nat} {x : Int32} : outsF f o x 2 = nI (o + 1) := pk_us
theorem outsF_0 {f : Nat → Int32} {o : Nat} {x : Int32} : outsF f o x 0 = f 0 := by
  unfold outsF
  rw [pk_un (by omega), pk_un (by omega)]
theorem outsF_1 {f : Nat → Int32} {o : Nat} {x : Int32} : outsF f o x 1 = f 1 := by
  unfold outsF
  rw [pk_un (by omega), pk_un (by omega)]
theorem begF_0 {n t p q : Int32} {f : Nat → Int32} : begF n t p q f 0 = n := by
  unfold begF
  rw [pk_un (by omega), pk_un (by omega), pk_un (by omega), pk_us]
theorem begF_1 {n t p q : Int32} {f : Nat → Int32} : begF n t p q f 1 = nI 0 := by
  unfold begF
  rw [pk_un (by omega), pk_un (by omega), pk_un (by omega), pk_un (by omega), zeroF_in (by omega)]
  rfl
theorem begF_2 {n t p q : Int32} {f : Nat → Int32} : begF n t p q f 2 = nI 0 := by
  unfold begF
  rw [pk_un (by omega), pk_un (by omega), pk_un (by omega), pk_un (by omega), zeroF_in (by omega)]
  rfl
def laysN (kv xv yv : Nat → Int32) : Nat → (Nat → Int32) → (Nat → Int32)
  | 0, f => f
  | j + 1, f => laysF (laysN kv xv yv j f) j (kv j) (xv j) (yv j)
theorem laysN_1 {kv xv yv f : Nat → Int32} (h : f 1 = nI 0) : ∀ j, laysN kv xv yv j f 1 = nI j
  | 0 => h
  | j + 1 => laysF_1
theorem laysN_2 {kv xv yv f : Nat → Int32} : ∀ j, laysN kv xv yv j f 2 = f 2
  | 0 => rfl
  | j + 1 => by
    show laysF _ _ _ _ _ 2 = _
    rw [laysF_2]; exact laysN_2 j
theorem laysN_0 {kv xv yv f : Nat → Int32} : ∀ j, laysN kv xv yv j f 0 = f 0
  | 0 => rfl
  | j + 1 => by
    show laysF _ _ _ _ _ 0 = _
    rw [laysF_0]; exact laysN_0 j
def remM (a : Int64) (b : Int64) : Int32 := (a - a / b * b).toInt32
def drawKm (x : Int64) (j : Nat) : Int32 := remM (drawX x (j + 1) / 65536) 8
def drawXm (x : Int64) (n : Int32) (j : Nat) : Int32 := remM (drawX x (j + 1) / 1024) (n + nI j).toInt64
def drawYm (x : Int64) (n : Int32) (j : Nat) : Int32 := remM (drawX x (j + 1) / 32768) (n + nI j).toInt64
theorem inF_ok {v : Int32} {lo hi : Nat} {L M : Int32} (hL : L = nI lo) (hM : M = nI hi) (hb : hi < 2 ^ 31) (hlo : lo ≤ hi) (h : ¬ inF v L M = 0) : ∃ k : Nat, lo ≤ k ∧ k ≤ hi ∧ v = nI k := by
  unfold inF at h
  by_cases q1 : v < L
  · rw [if_pos q1] at h; exact absurd rfl h
  · rw [if_neg q1] at h
    by_cases q2 : M < v
    · rw [if_pos q2] at h; exact absurd rfl h
    · subst hL; subst hM
      have a := Int32.not_lt.mp q1
      have b := Int32.not_lt.mp q2
      rw [Int32.le_iff_toInt_le, nI_toInt (by omega)] at a
      have h0 : ¬ v < 0 := by
        rw [Int32.lt_iff_toInt_lt]
        have e0 : (0 : Int32).toInt = 0 := by decide
        rw [e0]
        omega
      obtain ⟨k, hk, rfl⟩ := nI_of h0
      rw [Int32.le_iff_toInt_le, nI_toInt hk, nI_toInt (by omega)] at b
      rw [nI_toInt hk] at a
      exact ⟨k, by omega, by omega, rfl⟩
def countM (fR : Nat → Int32) (t : Int32) (f : Nat → Int32) (x : Int32) : Int32 := if 0 ≤ x.toInt ∧ x.toInt ≤ 2 then fR x.toNatClampNeg else if x.toInt = 3 then t else if x.toInt = 4 then f 0 else if x.toInt = 5 then f 1 else f 2
def cntM (fR : Nat → Int32) (t : Int32) (f : Nat → Int32) (x : Int32) : Int32 := if inF x 0 6 = 0 then -2 else countM fR t f x
theorem in3 {x : Int32} (h : x.toInt = 0 ∨ x.toInt = 1 ∨ x.toInt = 2) : vp_in x 3 := by
  rw [vp_in_iff]
  omega
def drawRm (x n g : Int32) : Int32 := if inF x 0 999999 = 0 then -2 else if inF n 1 6 = 0 then -2 else if inF g 1 12 = 0 then -2 else g
def adderRm (b : Int32) : Int32 := if inF b 1 3 = 0 then -2 else if b = 1 then 2 else if b = 2 then 7 else 12
theorem threeM {b : Int32} (h : ¬ inF b 1 3 = 0) : b = 1 ∨ b = 2 ∨ b = 3 := by
  obtain ⟨k, h1, h2, rfl⟩ := inF_ok (lo := 1) (hi := 3) rfl rfl (by decide) (by decide) h
  rcases (show k = 1 ∨ k = 2 ∨ k = 3 by omega) with rfl | rfl | rfl
  · exact Or.inl rfl
  · exact Or.inr (Or.inl rfl)
  · exact Or.inr (Or.inr rfl)
def zDear2 (a j b : Int32) : Int32 := if a = 0 then 0 else if j < 0 then 0 else if b = 0 then 0 else 1
theorem inF_nar (a b x : Int32) : narrow .boolean (.int (inF a b x)) = .int (inF a b x) := by
  unfold inF
  split
  · rfl
  · split <;> rfl
def zToldM (x i : Int32) : Int32 := if x = 0 then inF i 0 6 else if inF x 1 3 = 0 then 0 else if i = 0 then 1 else 0
