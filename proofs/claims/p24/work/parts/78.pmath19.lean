/-! ===== how often refused, on both sides ===== -/
def ctB (R n : Int32) : Int32 := if R = -2 then n + 1 else n
def ctN (R n : Int32) : Int32 := if R = -3 then n + 1 else n
def ctF (R n : Int32) : Int32 := if R = -4 then n + 1 else n
def bmp (R : Int32) (f : Nat → Int32) : Nat → Int32 := if R = -2 then upd f 0 (f 0 + 1) else if R = -3 then upd f 1 (f 1 + 1) else if R = -4 then upd f 2 (f 2 + 1) else f
def CTR (nB nN nF : Int32) (f : Nat → Int32) : Prop := f 0 = nB ∧ f 1 = nN ∧ f 2 = nF
theorem bmp_2 {f : Nat → Int32} : bmp (-2) f = upd f 0 (f 0 + 1) := if_pos rfl
theorem bmp_3 {f : Nat → Int32} : bmp (-3) f = upd f 1 (f 1 + 1) := (if_neg (by decide)).trans (if_pos rfl)
theorem bmp_4 {f : Nat → Int32} : bmp (-4) f = upd f 2 (f 2 + 1) := (if_neg (by decide)).trans ((if_neg (by decide)).trans (if_pos rfl))
theorem bmp_o {f : Nat → Int32} {R : Int32} (h2 : ¬ R = -2) (h3 : ¬ R = -3) (h4 : ¬ R = -4) : bmp R f = f := (if_neg h2).trans ((if_neg h3).trans (if_neg h4))
theorem bmp_0 {f : Nat → Int32} : bmp 0 f = f := bmp_o (by decide) (by decide) (by decide)
theorem ctr_bmp {nB nN nF R : Int32} {f : Nat → Int32} (h : CTR nB nN nF f) : CTR (ctB R nB) (ctN R nN) (ctF R nF) (bmp R f) := by
  obtain ⟨a, b, c⟩ := h
  unfold ctB ctN ctF
  by_cases h2 : R = -2
  · subst h2
    rw [bmp_2, if_pos rfl, if_neg (by decide), if_neg (by decide)]
    exact ⟨by rw [pk_us, a], by rw [pk_un (by omega)]; exact b, by rw [pk_un (by omega)]; exact c⟩
  · by_cases h3 : R = -3
    · subst h3
      rw [bmp_3, if_neg (by decide), if_pos rfl, if_neg (by decide)]
      exact ⟨by rw [pk_un (by omega)]; exact a, by rw [pk_us, b], by rw [pk_un (by omega)]; exact c⟩
    · by_cases h4 : R = -4
      · subst h4
        rw [bmp_4, if_neg (by decide), if_neg (by decide), if_pos rfl]
        exact ⟨by rw [pk_un (by omega)]; exact a, by rw [pk_un (by omega)]; exact b, by rw [pk_us, c]⟩
      · rw [bmp_o h2 h3 h4, if_neg h2, if_neg h3, if_neg h4]
        exact ⟨a, b, c⟩
theorem cB_of {cT z n : Int32} : (if z = 0 then n + 1 else n) = ctB (refusalF cT z) n := by
  unfold ctB refusalF
  by_cases a : z = 0
  · rw [if_pos a, if_pos a, if_pos rfl]
  · rw [if_neg a, if_neg a]
    by_cases b : cT = 0
    · rw [if_pos b, if_neg (by decide)]
    · rw [if_neg b, if_neg (by decide)]
theorem cN_of {cT z n : Int32} : (if z = 0 then n else if cT = 0 then n + 1 else n) = ctN (refusalF cT z) n := by
  unfold ctN refusalF
  by_cases a : z = 0
  · rw [if_pos a, if_pos a, if_neg (by decide)]
  · rw [if_neg a, if_neg a]
    by_cases b : cT = 0
    · rw [if_pos b, if_pos b, if_pos rfl]
    · rw [if_neg b, if_neg b, if_neg (by decide)]
theorem cF_ref {cT z n : Int32} : ctF (refusalF cT z) n = n := by
  unfold ctF refusalF
  by_cases a : z = 0
  · rw [if_pos a, if_neg (by decide)]
  · rw [if_neg a]
    by_cases b : cT = 0
    · rw [if_pos b, if_neg (by decide)]
    · rw [if_neg b, if_neg (by decide)]
theorem ct_0 {n : Int32} : ctB 0 n = n ∧ ctN 0 n = n ∧ ctF 0 n = n := ⟨if_neg (by decide), if_neg (by decide), if_neg (by decide)⟩
theorem ct_4 {n : Int32} : ctB (-4) n = n ∧ ctN (-4) n = n ∧ ctF (-4) n = n + 1 := ⟨if_neg (by decide), if_neg (by decide), if_pos rfl⟩
theorem ref_v {cT z : Int32} : refusalF cT z = -2 ∨ refusalF cT z = -3 ∨ refusalF cT z = 0 := by
  unfold refusalF
  by_cases a : z = 0
  · rw [if_pos a]; exact Or.inl rfl
  · rw [if_neg a]
    by_cases b : cT = 0
    · rw [if_pos b]; exact Or.inr (Or.inl rfl)
    · rw [if_neg b]; exact Or.inr (Or.inr rfl)
/-- type -/
def typR (t x : Int32) : Int32 := if x < 0 then -2 else if x ≤ 127 then (if t < 0 then -4 else if t < 120 then 0 else -4) else -2
def typM (t x : Int32) : Int32 := if inF x 0 127 = 0 then -2 else if t = 120 then -4 else 0
theorem typ_eq {t : Nat} {x : Int32} (ht : t ≤ 120) : typR (nI t) x = typM (nI t) x := by
  have e : (127 : Int32) < x ↔ ¬ x ≤ 127 := Int32.not_le.symm
  unfold typR typM inF
  by_cases h1 : x < 0
  · rw [if_pos h1, if_pos h1, if_pos rfl]
  · rw [if_neg h1, if_neg h1]
    by_cases h2 : x ≤ 127
    · rw [if_pos h2, if_neg (fun q => (e.mp q) h2), if_neg (show ¬ (1 : Int32) = 0 by decide), if_neg (nI_pos (by omega))]
      by_cases h4 : t = 120
      · subst h4; rfl
      · rw [if_pos (by rw [show (120 : Int32) = nI 120 from rfl, nI_ltI (by omega) (by decide)]; omega), if_neg (show ¬ nI t = (120 : Int32) from fun q => h4 (nI_inj (by omega) (by decide) (show nI t = nI 120 from q)))]
    · rw [if_neg h2, if_pos (e.mpr h2), if_pos rfl]
def cntR (x : Int32) : Int32 := if x.toInt < 0 ∨ 6 < x.toInt then -2 else 0
def cntRm (x : Int32) : Int32 := if inF x 0 6 = 0 then -2 else 0
theorem in06 {x : Int32} : (x.toInt < 0 ∨ 6 < x.toInt) ↔ inF x 0 6 = 0 := by
  have e0 : (0 : Int32).toInt = 0 := by decide
  have e6 : (6 : Int32).toInt = 6 := by decide
  unfold inF
  by_cases a : x < 0
  · rw [if_pos a]
    rw [Int32.lt_iff_toInt_lt, e0] at a
    exact ⟨fun _ => rfl, fun _ => Or.inl a⟩
  · rw [if_neg a]
    rw [Int32.lt_iff_toInt_lt, e0] at a
    by_cases b : (6 : Int32) < x
    · rw [if_pos b]
      rw [Int32.lt_iff_toInt_lt, e6] at b
      exact ⟨fun _ => rfl, fun _ => Or.inr b⟩
    · rw [if_neg b]
      rw [Int32.lt_iff_toInt_lt, e6] at b
      exact ⟨fun q => by omega, fun q => absurd q (by decide)⟩
theorem cntR_eq {x : Int32} : cntR x = cntRm x := by
  unfold cntR cntRm
  by_cases c : inF x 0 6 = 0
  · rw [if_pos c, if_pos (in06.mpr c)]
  · rw [if_neg c, if_neg (fun q => c (in06.mp q))]
theorem cnt_both {nB nN nF cI cG cO x t : Int32} {fR f : Nat → Int32} (h : CTR nB nN nF fR) (hI : cI = f 0) (hG : cG = f 1) (hO : cO = f 2) : cntF nB nN nF t cI cG cO x = cntM fR t f x := by
  unfold cntF cntM
  by_cases c : inF x 0 6 = 0
  · rw [if_pos c, if_pos (in06.mpr c)]
  · have c2 : ¬ (x.toInt < 0 ∨ 6 < x.toInt) := fun q => c (in06.mp q)
    rw [if_neg c, if_neg c2]
    unfold countF countM
    have v : x.toInt = 0 ∨ x.toInt = 1 ∨ x.toInt = 2 ∨ 2 < x.toInt := by omega
    rcases v with v | v | v | v
    · have e : x = 0 := Int32.toInt_inj.mp v
      subst e
      rw [if_pos (by decide), if_pos (by decide)]; exact h.1.symm
    · have e : x = 1 := Int32.toInt_inj.mp v
      subst e
      rw [if_neg (by decide), if_pos (by decide), if_pos (by decide)]; exact h.2.1.symm
    · have e : x = 2 := Int32.toInt_inj.mp v
      subst e
      rw [if_neg (by decide), if_neg (by decide), if_pos (by decide), if_pos (by decide)]; exact h.2.2.symm
    · rw [if_neg (by omega), if_neg (by omega), if_neg (by omega), if_neg (show ¬ (0 ≤ x.toInt ∧ x.toInt ≤ 2) by omega), hI, hG, hO]
theorem sr_same {f : Nat → Int32} {R r : Int32} {k1 k2 : Nat} (h : r = if R = 0 then stV f k1 0 else R) (hk : R = 0 → k1 = k2) : r = if R = 0 then stV f k2 0 else R := by
  by_cases c : R = 0
  · rw [if_pos c] at h ⊢
    rw [← hk c]; exact h
  · rw [if_neg c] at h ⊢; exact h
theorem nI_neg {k : Nat} {c : Int32} (hk : k < 2 ^ 31) (hc : c < 0) : ¬ nI k = c := fun e => by
  have := nI_pos hk
  rw [e] at this
  exact this hc
