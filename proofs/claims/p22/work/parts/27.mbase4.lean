def gateM (f : Nat → Int32) (i : Int32) : Int32 := inF i 0 (if thereM f = 0 then 11 else f 1 - 1)
def inpM (f : Nat → Int32) (i : Int32) : Int32 := inF i 0 (if thereM f = 0 then 63 else ((1 : Int32) <<< (f 0 &&& 31)) - 1)
def stgM (f : Nat → Int32) (i : Int32) : Int32 := inF i 0 (if thereM f = 0 then 12 else f 1)
def outM (f : Nat → Int32) (i : Int32) : Int32 := inF i 0 (if thereM f = 0 then 6 else f 2 - 1)
theorem inF_m {i : Int32} {n : Nat} (hn : n < 2 ^ 31) (h : ¬ inF i 0 (nI n - 1) = 0) : ∃ k : Nat, k < n ∧ i = nI k := by
  rcases Nat.eq_zero_or_pos n with q | q
  · subst q
    exfalso
    apply h
    unfold inF
    by_cases h1 : i < 0
    · rw [if_pos h1]
    · rw [if_neg h1, if_pos]
      obtain ⟨k, hk, rfl⟩ := nI_of h1
      rw [Int32.lt_iff_toInt_lt, nI_toInt hk, show (nI 0 - 1 : Int32).toInt = -1 by decide]
      omega
  · have e : nI n - 1 = nI (n - 1) := pk_sub (b := 1) q
    rw [e] at h
    obtain ⟨k, _, h2, h3⟩ := inF_ok (lo := 0) (hi := n - 1) rfl rfl (by omega) (by omega) h
    exact ⟨k, by omega, h3⟩
theorem gate_ok {f : Nat → Int32} {g : Nat} {i : Int32} (hg : f 1 = nI g) (hgN : g ≤ 12) (h : ¬ gateM f i = 0) (ht : ¬ thereM f = 0) : ∃ k : Nat, k < g ∧ i = nI k := by
  unfold gateM at h
  rw [if_neg ht, hg] at h
  exact inF_m (by omega) h
theorem place_ok {f : Nat → Int32} {g : Nat} {i : Int32} (hg : f 2 = nI g) (hgN : g ≤ 7) (h : ¬ outM f i = 0) (ht : ¬ thereM f = 0) : ∃ k : Nat, k < g ∧ i = nI k := by
  unfold outM at h
  rw [if_neg ht, hg] at h
  exact inF_m (by omega) h
theorem stage_ok {f : Nat → Int32} {g : Nat} {i : Int32} (hg : f 1 = nI g) (hgN : g ≤ 12) (h : ¬ stgM f i = 0) (ht : ¬ thereM f = 0) : ∃ k : Nat, k ≤ g ∧ i = nI k := by
  unfold stgM at h
  rw [if_neg ht, hg] at h
  obtain ⟨k, _, h2, h3⟩ := inF_ok (lo := 0) (hi := g) rfl rfl (by omega) (by omega) h
  exact ⟨k, h2, h3⟩
theorem t31 {i : Int32} {m : Nat} (h : i = nI m) : (3 : Int32) + i - 1 = nI (2 + m) := by
  rw [h, show (3 : Int32) + nI m = nI (3 + m) from nI_add 3 m]
  have e : nI (3 + m) - nI 1 = nI (3 + m - 1) := pk_sub (by omega)
  rw [show (1 : Int32) = nI 1 from rfl, e]
  congr 1
  omega
theorem iadd {i : Int32} {m : Nat} (a : Nat) (h : i = nI m) : Int32.ofNat a + i = nI (a + m) := by
  rw [h]; exact nI_add a m
def tyM (t : Nat) (x : Int32) : Nat := if inF x 0 127 = 0 then t else if t = 120 then t else t + 1
theorem t120 {t : Nat} (ht : t ≤ 120) (h : ¬ nI t = 120) : t < 120 := by
  rcases Nat.lt_or_ge t 120 with q | q
  · exact q
  · exact absurd (by rw [show t = 120 by omega]; rfl) h
theorem t120e {t : Nat} (ht : t ≤ 120) (h : nI t = 120) : t = 120 := by
  have e : (nI t).toInt = (120 : Int32).toInt := by rw [h]
  rw [nI_toInt (by omega)] at e
  have e2 : (120 : Int32).toInt = 120 := by decide
  omega
theorem laysF_ge {f : Nat → Int32} {j : Nat} {k x y : Int32} {i : Nat} (h : i < 6) (h1 : ¬ i = 1) : laysF f j k x y i = f i := by
  unfold laysF
  rw [pk_un (by omega), pk_un (by omega), pk_un (by omega), pk_un (by omega)]
theorem outsF_ge {f : Nat → Int32} {o : Nat} {x : Int32} {i : Nat} (h : i < 6) (h1 : ¬ i = 2) : outsF f o x i = f i := by
  unfold outsF
  rw [pk_un (by omega), pk_un (by omega)]
theorem laysN_ge {kv xv yv f : Nat → Int32} {i : Nat} (h : i < 6) (h1 : ¬ i = 1) : ∀ j, laysN kv xv yv j f i = f i
  | 0 => rfl
  | j + 1 => by
    show laysF _ _ _ _ _ i = _
    rw [laysF_ge h h1]; exact laysN_ge h h1 j
theorem begF_4 {n t p q : Int32} {f : Nat → Int32} : begF n t p q f 4 = p := by
  unfold begF
  rw [pk_un (by omega), pk_us]
theorem begF_5 {n t p q : Int32} {f : Nat → Int32} : begF n t p q f 5 = q := pk_us
theorem laysF_4 {f : Nat → Int32} {j : Nat} {k x y : Int32} : laysF f j k x y 4 = f 4 := laysF_ge (by omega) (by omega)
theorem laysF_5 {f : Nat → Int32} {j : Nat} {k x y : Int32} : laysF f j k x y 5 = f 5 := laysF_ge (by omega) (by omega)
theorem outsF_4 {f : Nat → Int32} {o : Nat} {x : Int32} : outsF f o x 4 = f 4 := outsF_ge (by omega) (by omega)
theorem outsF_5 {f : Nat → Int32} {o : Nat} {x : Int32} : outsF f o x 5 = f 5 := outsF_ge (by omega) (by omega)
theorem okM_beg {d f : Nat → Int32} {n g o p q : Nat} {N P Q : Int32} {t : Int32} (e0 : d 0 = begF N t P Q f 0) (e1 : d 1 = nI g) (e2 : d 2 = nI o) (e4 : d 4 = begF N t P Q f 4) (e5 : d 5 = begF N t P Q f 5) (hn : N = nI n) (hp : P = nI p) (hq : Q = nI q) (h1 : n ≤ 6) (h2 : g ≤ 12) (h3 : o ≤ 7) (h4 : p ≤ 6) (h5 : q ≤ 6) : okM d :=
  ⟨n, g, o, p, q, (e0.trans begF_0).trans hn, h1, e1, h2, e2, h3, (e4.trans begF_4).trans hp, h4, (e5.trans begF_5).trans hq, h5⟩
