/-! ===== the first one's large steps ===== -/
theorem putF_nI {f : Nat → Int32} {n g : Nat} {v : Int32} (h : g < n) (hn : n < 2 ^ 31) : putF f n (nI g) v = upd f g v := by
  unfold putF
  have e : nI g < Int32.ofNat n := by
    show nI g < nI n
    rw [nI_ltI (by omega) hn]; exact h
  rw [if_pos ⟨by rw [show (0 : Int32) = nI 0 from rfl, nI_ltI (by omega) (by decide)]; omega, e⟩, nI_clamp (by omega)]
def GA (k1 k2 k3 d : Nat → Int32) (g : Nat) : Prop := ∀ j, j < g → k1 j = d (6 + j) ∧ k2 j = d (18 + j) ∧ k3 j = d (30 + j)
def GO (k4 d : Nat → Int32) (o : Nat) : Prop := ∀ j, j < o → k4 j = d (42 + j)
theorem GA_add {k1 k2 k3 d : Nat → Int32} {g : Nat} {k x y : Int32} (h1 : d 1 = nI g) (hg : g < 12) (h : GA k1 k2 k3 d g) : GA (putF k1 12 (nI g) k) (putF k2 12 (nI g) x) (putF k3 12 (nI g) y) (addG d k x y) (g + 1) := by
  intro j hj
  rw [putF_nI hg (by decide), putF_nI hg (by decide), putF_nI hg (by decide), addG_eq h1 hg]
  by_cases e : j = g
  · subst e
    rw [pk_us, pk_us, pk_us]
    refine ⟨?_, ?_, ?_⟩
    · rw [pk_un (by omega), pk_un (by omega), pk_un (by omega), pk_us]
    · rw [pk_un (by omega), pk_un (by omega), pk_us]
    · rw [pk_un (by omega), pk_us]
  · rw [pk_un e, pk_un e, pk_un e]
    obtain ⟨a, b, c⟩ := h j (by omega)
    refine ⟨?_, ?_, ?_⟩
    · rw [pk_un (by omega), pk_un (by omega), pk_un (by omega), pk_un (by omega)]; exact a
    · rw [pk_un (by omega), pk_un (by omega), pk_un (by omega), pk_un (by omega)]; exact b
    · rw [pk_un (by omega), pk_un (by omega), pk_un (by omega), pk_un (by omega)]; exact c
theorem GO_add {k4 d : Nat → Int32} {o : Nat} {v : Int32} (h2 : d 2 = nI o) (ho : o < 7) (h : GO k4 d o) : GO (putF k4 7 (nI o) v) (addO d v) (o + 1) := by
  intro j hj
  rw [putF_nI ho (by decide), addO_eq h2 (by omega)]
  by_cases e : j = o
  · subst e
    rw [pk_us, pk_un (by omega), pk_us]
  · rw [pk_un e, pk_un (by omega), pk_un (by omega)]
    exact h j (by omega)
theorem addO_2 {d : Nat → Int32} {v : Int32} {o : Nat} (h2 : d 2 = nI o) (ho : o < 12) : addO d v 2 = nI (o + 1) := by
  rw [addO_eq h2 ho]; exact pk_us
theorem addO_lo {d : Nat → Int32} {v : Int32} {i : Nat} (hi : i < 42) (h1 : ¬ i = 2) : addO d v i = d i := by
  unfold addO
  rw [pk_un (by omega), pk_un (by omega)]
theorem GA_of {k1 k2 k3 d e : Nat → Int32} {g : Nat} (hg : g ≤ 12) (h : GA k1 k2 k3 d g) (he : ∀ i, i < 42 → ¬ i = 2 → e i = d i) : GA k1 k2 k3 e g := fun j hj => by
  obtain ⟨a, b, c⟩ := h j hj
  rw [he _ (by omega) (by omega), he _ (by omega) (by omega), he _ (by omega) (by omega)]
  exact ⟨a, b, c⟩
theorem endD_hi {d : Nat → Int32} {k p q : Int32} {i : Nat} (h : i < 3 ∨ 6 ≤ i) : endD d k p q i = d i := by
  unfold endD
  rw [pk_un (by omega), pk_un (by omega), pk_un (by omega)]
theorem endD_3 {d : Nat → Int32} {k p q : Int32} : endD d k p q 3 = k := by
  unfold endD
  rw [pk_un (by omega), pk_un (by omega), pk_us]
theorem endD_4 {d : Nat → Int32} {k p q : Int32} : endD d k p q 4 = p := by
  unfold endD
  rw [pk_un (by omega), pk_us]
theorem endD_5 {d : Nat → Int32} {k p q : Int32} : endD d k p q 5 = q := pk_us
theorem tn_yes {X : Option (Int32 × Nat)} {r : Int32} {a : Nat} (h : (X = some (r, a) ∧ ¬ r = -1) ∨ (r = -1 ∧ X = none)) (c : ¬ r = -1) : X = some (r, a) := by
  rcases h with ⟨h, _⟩ | ⟨h, _⟩
  · exact h
  · exact absurd h c
theorem tn_no {X : Option (Int32 × Nat)} {r : Int32} {a : Nat} (h : (X = some (r, a) ∧ ¬ r = -1) ∨ (r = -1 ∧ X = none)) (c : r = -1) : X = none := by
  rcases h with ⟨_, h⟩ | ⟨_, h⟩
  · exact absurd c h
  · exact h
theorem gk_yes {t : Nat} {f : Nat → Int32} {lo n b : Nat} {r : Int32} (h : (∃ k, lo ≤ k ∧ k < lo + n ∧ CW t f k b ∧ r = nI (k - lo)) ∨ (r = -1 ∧ ∀ j, lo ≤ j → j < lo + n → ¬ CW t f j b)) (c : ¬ r = -1) : ∃ k, lo ≤ k ∧ k < lo + n ∧ CW t f k b ∧ r = nI (k - lo) := by
  rcases h with h | ⟨h, _⟩
  · exact h
  · exact absurd h c
theorem nI_nm1 {k : Nat} (hk : k < 2 ^ 31) : ¬ nI k = -1 := fun e => by
  have : (nI k).toInt = (-1 : Int32).toInt := by rw [e]
  rw [nI_toInt hk, show (-1 : Int32).toInt = -1 by decide] at this
  omega
theorem gk_not {t : Nat} {f : Nat → Int32} {lo n b : Nat} {r : Int32} (hn : lo + n ≤ 16) (h : (∃ k, lo ≤ k ∧ k < lo + n ∧ CW t f k b ∧ r = nI (k - lo)) ∨ (r = -1 ∧ ∀ j, lo ≤ j → j < lo + n → ¬ CW t f j b)) (c : r = -1) : ∀ j, lo ≤ j → j < lo + n → ¬ CW t f j b := by
  rcases h with ⟨k, h1, h2, _, h4⟩ | ⟨_, h⟩
  · rw [h4] at c; exact absurd c (nI_nm1 (by omega))
  · exact h
theorem gate_wc {t : Nat} {f d : Nat → Int32} {a : Nat} (h : ∀ j, 0 ≤ j → j < 0 + 8 → ¬ CW t f j (sk t f a)) : gateP t f d a = none := by
  unfold gateP
  rw [gk_none 8 h]
  rfl
theorem task_wc {t : Nat} {f d : Nat → Int32} {a : Nat} (h : ∀ j, 8 ≤ j → j < 8 + 4 → ¬ CW t f j (sk t f a)) : taskP t f d a = none := by
  unfold taskP
  rw [gk_none 4 h]
  rfl
theorem cw_end {t : Nat} {f : Nat → Int32} {j b : Nat} (hj : j < 16) (h : CW t f j b) : toB t f b = b + wln j := ((cw_tok hj).mp h).2.1
theorem or_ex {z : Int32} {X : Option Nat} {Y : Option ((Nat → Int32) × Nat)} {D : Nat → Int32} {u : Nat} {R : (Nat → Int32) → Prop} (hz : (z = 1 ∧ X = some u) ∨ (z = 0 ∧ X = none)) (hY : Y = X.bind fun a3 => some (D, a3)) (hR : R D) : (z = 1 ∧ ∃ d1, Y = some (d1, u) ∧ R d1) ∨ (z = 0 ∧ Y = none) := by
  rcases hz with ⟨a, b⟩ | ⟨a, b⟩
  · exact Or.inl ⟨a, D, by rw [hY, b]; rfl, hR⟩
  · exact Or.inr ⟨a, by rw [hY, b]; rfl⟩
def inP (t : Nat) (f : Nat → Int32) (a : Nat) : Option (Int32 × Nat) := (tkW t f 12 a).bind fun a1 => (tkN t f 1 6 a1).bind fun n => (tkS t f n.2).bind fun a3 => some (n.1, a3)
def outP (t : Nat) (f d : Nat → Int32) (a : Nat) : Option ((Nat → Int32) × Nat) := (tkW t f 14 a).bind fun a5 => outsQ t f (d 0 + d 1 - 1) 7 d a5
def tskP (t : Nat) (f d : Nat → Int32) (a : Nat) : Option ((Nat → Int32) × Nat) := (tkW t f 15 a).bind fun a7 => taskP t f d a7
theorem all_eq {t : Nat} {f z : Nat → Int32} : allP t f z = (inP t f 0).bind fun n => (gatesP t f 12 (upd z 0 n.1) n.2).bind fun q => (outP t f q.1 q.2).bind fun o => (tskP t f o.1 o.2).bind fun w => if sk t f w.2 = t then some w.1 else none := by
  unfold allP inP restP outP tskP
  simp only [Option.bind_assoc, Option.bind_some]
theorem gates_0 {t : Nat} {f d : Nat → Int32} {a g : Nat} (hg : g ≤ 12) (h : g = 12 ∨ tkW t f 13 a = none) : gatesP t f (12 - g) d a = some (d, a) := by
  rcases Nat.lt_or_ge g 12 with q | q
  · rw [show 12 - g = (11 - g) + 1 by omega]
    show (match tkW t f 13 a with | none => some (d, a) | some a1 => _) = _
    rcases h with h | h
    · omega
    · rw [h]
  · rw [show 12 - g = 0 by omega]; rfl
theorem gates_1 {t : Nat} {f d : Nat → Int32} {a g a1 : Nat} (hg : g < 12) (h : tkW t f 13 a = some a1) : gatesP t f (12 - g) d a = (gateP t f d a1).bind fun q => gatesP t f (12 - (g + 1)) q.1 q.2 := by
  rw [show 12 - g = (12 - (g + 1)) + 1 by omega]
  show (match tkW t f 13 a with | none => some (d, a) | some a1 => _) = _
  rw [h]
theorem outs_0 {t : Nat} {f d : Nat → Int32} {last : Int32} {a o : Nat} (ho : o ≤ 7) (h : o = 7 ∨ (¬ o = 0 ∧ ¬ sortF (bA t f (sk t f a)) = 2)) : outsP t f last (7 - o) d a = some (d, a) := by
  rcases Nat.lt_or_ge o 7 with q | q
  · rw [show 7 - o = (6 - o) + 1 by omega]
    show (if 6 - o = 6 ∨ sortF (bA t f (sk t f a)) = 2 then _ else some (d, a)) = _
    rcases h with h | ⟨h, h2⟩
    · omega
    · rw [if_neg]
      rintro (k | k)
      · omega
      · exact h2 k
  · rw [show 7 - o = 0 by omega]; rfl
theorem outs_1 {t : Nat} {f d : Nat → Int32} {last : Int32} {a o : Nat} (ho : o < 7) (h : o = 0 ∨ sortF (bA t f (sk t f a)) = 2) : outsP t f last (7 - o) d a = (tkN t f 0 last a).bind fun v => outsP t f last (7 - (o + 1)) (addO d v.1) v.2 := by
  rw [show 7 - o = (7 - (o + 1)) + 1 by omega]
  show (if 7 - (o + 1) = 6 ∨ sortF (bA t f (sk t f a)) = 2 then _ else some (d, a)) = _
  rw [if_pos]
  rcases h with h | h
  · exact Or.inl (by omega)
  · exact Or.inr h
theorem in_fin {t : Nat} {f : Nat → Int32} {a u1 u2 u3 : Nat} {z n : Int32} (hz : (z = 1 ∧ tkS t f u2 = some u3) ∨ (z = 0 ∧ tkS t f u2 = none)) (h1 : tkW t f 12 a = some u1) (h2 : tkN t f 1 6 u1 = some (n, u2)) : (z = 1 ∧ inP t f a = some (n, u3) ∧ (0 : Int32) = 0 ∧ (0 : Int32) = 0) ∨ (z = 0 ∧ inP t f a = none) := by
  have e : inP t f a = (tkS t f u2).bind fun a3 => some (n, a3) := by
    unfold inP
    rw [h1]
    show (tkN t f 1 6 u1).bind _ = _
    rw [h2]; rfl
  rcases hz with ⟨q, h⟩ | ⟨q, h⟩
  · exact Or.inl ⟨q, by rw [e, h]; rfl, rfl, rfl⟩
  · exact Or.inr ⟨q, by rw [e, h]; rfl⟩
