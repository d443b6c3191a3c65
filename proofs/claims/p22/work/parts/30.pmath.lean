/-! ===== the text as both readers see it ===== -/
def bA (t : Nat) (f : Nat → Int32) (k : Nat) : Int32 := if k < t then f k else -1
theorem bA_in {t : Nat} {f : Nat → Int32} {k : Nat} (h : k < t) : bA t f k = f k := if_pos h
theorem bA_out {t : Nat} {f : Nat → Int32} {k : Nat} (h : t ≤ k) : bA t f k = -1 := if_neg (by omega)
def skA (t : Nat) (f : Nat → Int32) : Nat → Nat → Nat
  | 0, a => a
  | n + 1, a => if bA t f a = 32 then skA t f n (a + 1) else a
def sk (t : Nat) (f : Nat → Int32) (a : Nat) : Nat := skA t f (t + 1) a
theorem skA_spec {t : Nat} {f : Nat → Int32} : ∀ (n a : Nat), t < a + n → a ≤ skA t f n a ∧ ¬ bA t f (skA t f n a) = 32 ∧ ∀ k, a ≤ k → k < skA t f n a → bA t f k = 32
  | 0, a, h => ⟨Nat.le_refl _, by show ¬ bA t f a = 32; rw [bA_out (by omega)]; decide, fun k h1 h2 => absurd h2 (by show ¬ k < a; omega)⟩
  | n + 1, a, h => by
    show a ≤ (if bA t f a = 32 then skA t f n (a + 1) else a) ∧ _
    have e : skA t f (n + 1) a = if bA t f a = 32 then skA t f n (a + 1) else a := rfl
    rw [e]
    by_cases q : bA t f a = 32
    · rw [if_pos q]
      obtain ⟨h1, h2, h3⟩ := skA_spec (t := t) (f := f) n (a + 1) (by omega)
      refine ⟨by omega, h2, fun k k1 k2 => ?_⟩
      rcases Nat.eq_or_lt_of_le k1 with r | r
      · rw [← r]; exact q
      · exact h3 k r k2
    · rw [if_neg q]
      exact ⟨Nat.le_refl _, q, fun k k1 k2 => absurd k2 (by omega)⟩
theorem sk_ge (t : Nat) (f : Nat → Int32) (a : Nat) : a ≤ sk t f a := (skA_spec (t + 1) a (by omega)).1
theorem sk_ne (t : Nat) (f : Nat → Int32) (a : Nat) : ¬ bA t f (sk t f a) = 32 := (skA_spec (t + 1) a (by omega)).2.1
theorem sk_sp {t : Nat} {f : Nat → Int32} {a k : Nat} (h1 : a ≤ k) (h2 : k < sk t f a) : bA t f k = 32 := (skA_spec (t + 1) a (by omega)).2.2 k h1 h2
theorem sk_uniq {t : Nat} {f : Nat → Int32} {a b : Nat} (h1 : a ≤ b) (h2 : ¬ bA t f b = 32) (h3 : ∀ k, a ≤ k → k < b → bA t f k = 32) : b = sk t f a := by
  rcases Nat.lt_trichotomy b (sk t f a) with q | q | q
  · exact absurd (sk_sp h1 q) h2
  · exact q
  · exact absurd (h3 _ (sk_ge t f a) q) (sk_ne t f a)
theorem sk_le {t : Nat} {f : Nat → Int32} {a : Nat} (h : a ≤ t) : sk t f a ≤ t := by
  rcases Nat.lt_or_ge t (sk t f a) with q | q
  · have := sk_sp h q
    rw [bA_out (Nat.le_refl _)] at this
    exact absurd this (by decide)
  · exact q
theorem sk_idem (t : Nat) (f : Nat → Int32) (a : Nat) : sk t f (sk t f a) = sk t f a := (sk_uniq (Nat.le_refl _) (sk_ne t f a) (fun k h1 h2 => absurd h2 (by omega))).symm
theorem sk_self {t : Nat} {f : Nat → Int32} {a : Nat} (h : ¬ bA t f a = 32) : sk t f a = a := (sk_uniq (Nat.le_refl _) h (fun k h1 h2 => absurd h2 (by omega))).symm
theorem byteAt_bA {t j : Nat} {f : Nat → Int32} (ht : t ≤ 120) (hj : j < 2 ^ 31) : byteAtM (nI t) f (nI j) = bA t f j := by
  unfold byteAtM bA
  by_cases h : j < t
  · rw [if_neg (by rw [nI_leI (by omega) hj]; omega), if_pos h, nI_clamp hj]
  · rw [if_pos (by rw [nI_leI (by omega) hj]; omega), if_neg h]
def sl2F (c : Int32) : Int32 := if c < 65 then 3 else if 90 < c then 3 else 1
def slF (c : Int32) : Int32 := if c < 97 then sl2F c else if 122 < c then sl2F c else 1
def sortF (c : Int32) : Int32 := if c = -1 then 0 else if c < 48 then slF c else if 57 < c then slF c else 2
def rnA (t : Nat) (f : Nat → Int32) (s : Int32) : Nat → Nat → Nat
  | 0, k => k
  | n + 1, k => if k < t then (if sortF (f k) = s then rnA t f s n (k + 1) else k) else k
theorem rnA_spec {t : Nat} {f : Nat → Int32} {s : Int32} : ∀ (n k : Nat), t ≤ k + n → k ≤ rnA t f s n k ∧ (∀ j, k ≤ j → j < rnA t f s n k → j < t ∧ sortF (f j) = s) ∧ (t ≤ rnA t f s n k ∨ ¬ sortF (f (rnA t f s n k)) = s)
  | 0, k, h => ⟨Nat.le_refl _, fun j h1 h2 => absurd h2 (by show ¬ j < k; omega), Or.inl (by show t ≤ k; omega)⟩
  | n + 1, k, h => by
    have e : rnA t f s (n + 1) k = if k < t then (if sortF (f k) = s then rnA t f s n (k + 1) else k) else k := rfl
    rw [e]
    by_cases q : k < t
    · rw [if_pos q]
      by_cases r : sortF (f k) = s
      · rw [if_pos r]
        obtain ⟨h1, h2, h3⟩ := rnA_spec (t := t) (f := f) (s := s) n (k + 1) (by omega)
        refine ⟨by omega, fun j j1 j2 => ?_, h3⟩
        rcases Nat.eq_or_lt_of_le j1 with z | z
        · rw [← z]; exact ⟨q, r⟩
        · exact h2 j z j2
      · rw [if_neg r]
        exact ⟨Nat.le_refl _, fun j h1 h2 => absurd h2 (by omega), Or.inr r⟩
    · rw [if_neg q]
      exact ⟨Nat.le_refl _, fun j h1 h2 => absurd h2 (by omega), Or.inl (by omega)⟩
def rn (t : Nat) (f : Nat → Int32) (s : Int32) (k : Nat) : Nat := rnA t f s t k
theorem rn_uniq {t : Nat} {f : Nat → Int32} {s : Int32} {k e : Nat} (h1 : k ≤ e) (h2 : ∀ j, k ≤ j → j < e → j < t ∧ sortF (f j) = s) (h3 : t ≤ e ∨ ¬ sortF (f e) = s) : e = rn t f s k := by
  obtain ⟨a1, a2, a3⟩ := rnA_spec (t := t) (f := f) (s := s) t k (by omega)
  rcases Nat.lt_trichotomy e (rn t f s k) with q | q | q
  · have := a2 e h1 q
    rcases h3 with h | h
    · omega
    · exact absurd this.2 h
  · exact q
  · have := h2 (rn t f s k) a1 q
    rcases a3 with h | h
    · exact absurd this.1 (Nat.not_lt.mpr h)
    · exact absurd this.2 h
/-- where the sign that begins at b ends -/
def toB (t : Nat) (f : Nat → Int32) (b : Nat) : Nat := if sortF (bA t f b) = 0 then b else if sortF (bA t f b) = 1 ∨ sortF (bA t f b) = 2 then rn t f (sortF (bA t f b)) (b + 1) else b + 1
theorem sort_m1 : sortF (-1) = 0 := by decide
theorem sort_bA {t : Nat} {f : Nat → Int32} {k : Nat} {s : Int32} (hs : ¬ s = 0) (h : sortF (bA t f k) = s) : k < t ∧ sortF (f k) = s := by
  by_cases q : k < t
  · rw [bA_in q] at h; exact ⟨q, h⟩
  · rw [bA_out (by omega), sort_m1] at h; exact absurd h.symm hs
theorem toB_row {t : Nat} {f : Nat → Int32} {b n : Nat} {s : Int32} (hs : s = 1 ∨ s = 2) (hn : 0 < n) (h : ∀ i, i < n → sortF (bA t f (b + i)) = s) (h2 : ¬ sortF (bA t f (b + n)) = s) : toB t f b = b + n := by
  have h0 : sortF (bA t f b) = s := h 0 hn
  have hs0 : ¬ s = 0 := by rcases hs with rfl | rfl <;> decide
  unfold toB
  rw [h0, if_neg hs0, if_pos hs]
  refine (rn_uniq (by omega) (fun j j1 j2 => ?_) ?_).symm
  · have := h (j - b) (by omega)
    rw [show b + (j - b) = j by omega] at this
    exact sort_bA hs0 this
  · by_cases q : b + n < t
    · rw [bA_in q] at h2; exact Or.inr h2
    · exact Or.inl (by omega)
theorem toB_in {t : Nat} {f : Nat → Int32} {b : Nat} {s : Int32} (hs : s = 1 ∨ s = 2) (h0 : sortF (bA t f b) = s) : b < toB t f b ∧ (∀ k, b ≤ k → k < toB t f b → sortF (bA t f k) = s) ∧ ¬ sortF (bA t f (toB t f b)) = s := by
  have hs0 : ¬ s = 0 := by rcases hs with rfl | rfl <;> decide
  have e : toB t f b = rn t f s (b + 1) := by
    unfold toB
    rw [h0, if_neg hs0, if_pos hs]
  obtain ⟨a1, a2, a3⟩ := rnA_spec (t := t) (f := f) (s := s) t (b + 1) (by omega)
  have e2 : rnA t f s t (b + 1) = toB t f b := e.symm
  rw [e2] at a1 a2 a3
  refine ⟨by omega, fun k k1 k2 => ?_, ?_⟩
  · rcases Nat.eq_or_lt_of_le k1 with z | z
    · rw [← z]; exact h0
    · obtain ⟨x, y⟩ := a2 k z k2
      rw [bA_in x]; exact y
  · rcases a3 with h | h
    · rw [bA_out h, sort_m1]; exact fun q => hs0 q.symm
    · by_cases q : toB t f b < t
      · rw [bA_in q]; exact h
      · rw [bA_out (by omega), sort_m1]; exact fun q => hs0 q.symm
theorem toB_ge (t : Nat) (f : Nat → Int32) (b : Nat) : b ≤ toB t f b := by
  unfold toB
  by_cases h : sortF (bA t f b) = 0
  · rw [if_pos h]; omega
  · rw [if_neg h]
    by_cases h2 : sortF (bA t f b) = 1 ∨ sortF (bA t f b) = 2
    · rw [if_pos h2]
      have := (rnA_spec (t := t) (f := f) (s := sortF (bA t f b)) t (b + 1) (by omega)).1
      unfold rn
      omega
    · rw [if_neg h2]; omega
theorem toB_le {t : Nat} {f : Nat → Int32} {b : Nat} (hb : b ≤ t) : toB t f b ≤ t := by
  by_cases h : sortF (bA t f b) = 0
  · unfold toB; rw [if_pos h]; exact hb
  · have hbt : b < t := (sort_bA h rfl).1
    by_cases h2 : sortF (bA t f b) = 1 ∨ sortF (bA t f b) = 2
    · obtain ⟨h1, h3, h4⟩ := toB_in h2 rfl
      rcases Nat.lt_or_ge t (toB t f b) with q | q
      · have := h3 t (by omega) q
        rw [bA_out (Nat.le_refl _), sort_m1] at this
        exact absurd this.symm h
      · exact q
    · unfold toB; rw [if_neg h, if_neg h2]; omega
/-! ===== words, numbers, ends ===== -/
def wst (j : Nat) : Nat := [0, 4, 8, 11, 15, 20, 24, 29, 33, 37, 45, 52, 59, 62, 64, 68].getD j 0
def wln (j : Nat) : Nat := [3, 3, 2, 3, 4, 3, 4, 3, 3, 7, 6, 6, 2, 1, 3, 4].getD j 1
abbrev wch (j i : Nat) : Int32 := wdF 73 (wst j + i)
abbrev mat (t : Nat) (f : Nat → Int32) (j b : Nat) : Prop := ∀ i, i < wln j → bA t f (b + i) = wch j i
abbrev CW (t : Nat) (f : Nat → Int32) (j b : Nat) : Prop := mat t f j b ∧ ¬ sortF (bA t f (b + wln j)) = 1
abbrev MW (t : Nat) (f : Nat → Int32) (j b : Nat) : Prop := mat t f j b ∧ inF (bA t f (b + wln j)) 97 122 = 0
theorem lower_sort {c : Int32} (h : ¬ inF c 97 122 = 0) : sortF c = 1 := by
  unfold inF at h
  by_cases q1 : c < 97
  · rw [if_pos q1] at h; exact absurd rfl h
  · rw [if_neg q1] at h
    by_cases q2 : 122 < c
    · rw [if_pos q2] at h; exact absurd rfl h
    · have e1 := q1; have e2 := q2
      rw [Int32.lt_iff_toInt_lt] at e1 e2
      have k97 : (97 : Int32).toInt = 97 := by decide
      have k122 : (122 : Int32).toInt = 122 := by decide
      rw [k97] at e1; rw [k122] at e2
      unfold sortF slF
      rw [if_neg (fun q => by rw [q] at e1; exact absurd (by decide) e1), if_neg (by rw [Int32.lt_iff_toInt_lt, show (48 : Int32).toInt = 48 by decide]; omega), if_pos (by rw [Int32.lt_iff_toInt_lt, show (57 : Int32).toInt = 57 by decide]; omega), if_neg q1, if_neg q2]
theorem wln_pos : ∀ j, j < 16 → 0 < wln j := by decide
theorem wln_le : ∀ j, j < 16 → wln j ≤ 7 := by decide
theorem wch_low : ∀ j, j < 16 → ∀ i, i < wln j → ¬ inF (wch j i) 97 122 = 0 := by decide
theorem wch_uniq : ∀ j, j < 16 → ∀ k, k < 16 → wln j = wln k → (∀ i, i < wln j → wch j i = wch k i) → j = k := by decide
theorem cw_mw {t : Nat} {f : Nat → Int32} {j b : Nat} (h : CW t f j b) : MW t f j b := by
  refine ⟨h.1, ?_⟩
  by_cases q : inF (bA t f (b + wln j)) 97 122 = 0
  · exact q
  · exact absurd (lower_sort q) h.2
theorem mw_uniq {t : Nat} {f : Nat → Int32} {j k b : Nat} (hj : j < 16) (hk : k < 16) (h1 : MW t f j b) (h2 : MW t f k b) : j = k := by
  rcases Nat.lt_trichotomy (wln j) (wln k) with q | q | q
  · have := h2.1 (wln j) q
    exact absurd (by rw [← this]; exact h1.2) (wch_low k hk (wln j) q)
  · refine wch_uniq j hj k hk q (fun i hi => ?_)
    rw [← h1.1 i hi]
    exact h2.1 i (by omega)
  · have := h1.1 (wln k) q
    exact absurd (by rw [← this]; exact h2.2) (wch_low j hj (wln k) q)
/-- a capital where a word of the reference ends: nothing follows there -/
def Cap (t : Nat) (f : Nat → Int32) (c : Nat) : Prop := sortF (bA t f c) = 1 ∧ inF (bA t f c) 97 122 = 0
theorem mw_cap {t : Nat} {f : Nat → Int32} {j b : Nat} (h : MW t f j b) (h2 : ¬ CW t f j b) : Cap t f (b + wln j) := by
  refine ⟨?_, h.2⟩
  by_cases q : sortF (bA t f (b + wln j)) = 1
  · exact q
  · exact absurd ⟨h.1, q⟩ h2
theorem Cap.skE {t : Nat} {f : Nat → Int32} {c : Nat} (h : Cap t f c) : sk t f c = c := sk_self (fun q => by have := h.1; rw [q] at this; exact absurd this (by decide))
theorem Cap.word {t : Nat} {f : Nat → Int32} {c j : Nat} (hj : j < 16) (h : Cap t f c) : ¬ MW t f j c := fun q => by
  have := q.1 0 (wln_pos j hj)
  exact absurd (by rw [← this]; exact h.2) (wch_low j hj 0 (wln_pos j hj))
theorem Cap.semi {t : Nat} {f : Nat → Int32} {c : Nat} (h : Cap t f c) : ¬ bA t f c = 59 := fun q => by have := h.1; rw [q] at this; exact absurd this (by decide)
theorem Cap.num {t : Nat} {f : Nat → Int32} {c : Nat} (h : Cap t f c) : ¬ sortF (bA t f c) = 2 := fun q => by have := h.1; rw [q] at this; exact absurd this (by decide)
/-- the first one's word at a sign -/
theorem cw_tok {t : Nat} {f : Nat → Int32} {j b : Nat} (hj : j < 16) : CW t f j b ↔ (sortF (bA t f b) = 1 ∧ toB t f b = b + wln j ∧ mat t f j b) := by
  have hlow : ∀ i, i < wln j → mat t f j b → sortF (bA t f (b + i)) = 1 := fun i hi h => by rw [h i hi]; exact lower_sort (wch_low j hj i hi)
  constructor
  · intro h
    refine ⟨hlow 0 (wln_pos j hj) h.1, ?_, h.1⟩
    exact toB_row (Or.inl rfl) (wln_pos j hj) (fun i hi => hlow i hi h.1) h.2
  · intro ⟨h1, h2, h3⟩
    refine ⟨h3, ?_⟩
    rw [← h2]
    exact (toB_in (Or.inl rfl) h1).2.2
theorem dig_sort (c : Int32) : sortF c = 2 ↔ ¬ inF c 48 57 = 0 := by
  have s3 : ∀ c, ¬ slF c = 2 := by
    intro c
    unfold slF sl2F
    by_cases h1 : c < 97 <;> by_cases h2 : 122 < c <;> by_cases h3 : c < 65 <;> by_cases h4 : 90 < c <;> simp [h1, h2, h3, h4]
  unfold sortF inF
  by_cases h0 : c = -1
  · subst h0; decide
  · rw [if_neg h0]
    by_cases h1 : c < 48
    · rw [if_pos h1, if_pos h1]
      exact ⟨fun h => absurd h (s3 c), fun h => absurd rfl h⟩
    · rw [if_neg h1, if_neg h1]
      by_cases h2 : 57 < c
      · rw [if_pos h2, if_pos h2]
        exact ⟨fun h => absurd h (s3 c), fun h => absurd rfl h⟩
      · rw [if_neg h2, if_neg h2]
        exact ⟨fun _ => by decide, fun _ => rfl⟩
def nv (f : Nat → Int32) (b : Nat) : Nat → Int32
  | 0 => 0
  | n + 1 => 10 * nv f b n + f (b + n) - 48
/-- the reference's row of figures against the first one's -/
theorem num_run {t : Nat} {f : Nat → Int32} {b e : Nat} (h1 : b ≤ e) (h2 : e ≤ b + 3) (h3 : ∀ j, b ≤ j → j < e → sortF (bA t f j) = 2) (h4 : e = b + 3 ∨ ¬ sortF (bA t f e) = 2) : (b < e ∧ e - b < 3) ↔ (sortF (bA t f b) = 2 ∧ toB t f b ≤ b + 2) := by
  constructor
  · intro ⟨q1, q2⟩
    have h5 : ¬ sortF (bA t f e) = 2 := by
      rcases h4 with h | h
      · omega
      · exact h
    have e1 : toB t f b = b + (e - b) := toB_row (Or.inr rfl) (by omega) (fun i hi => h3 (b + i) (by omega) (by omega)) (by rw [show b + (e - b) = e by omega]; exact h5)
    exact ⟨h3 b (Nat.le_refl _) q1, by omega⟩
  · intro ⟨q1, q2⟩
    obtain ⟨k1, k2, k3⟩ := toB_in (Or.inr rfl) q1
    have hbe : b < e := by
      rcases Nat.lt_or_ge b e with z | z
      · exact z
      · have : e = b := by omega
        subst this
        rcases h4 with h | h
        · omega
        · exact absurd q1 h
    refine ⟨hbe, ?_⟩
    rcases Nat.lt_or_ge (e - b) 3 with z | z
    · exact z
    · exact absurd (h3 (toB t f b) (by omega) (by omega)) k3
theorem num_end {t : Nat} {f : Nat → Int32} {b e : Nat} (h1 : b < e) (h2 : e - b < 3) (h3 : ∀ j, b ≤ j → j < e → sortF (bA t f j) = 2) (h4 : e = b + 3 ∨ ¬ sortF (bA t f e) = 2) : toB t f b = e := by
  have h5 : ¬ sortF (bA t f e) = 2 := by
    rcases h4 with h | h
    · omega
    · exact h
  have e1 : toB t f b = b + (e - b) := toB_row (Or.inr rfl) (by omega) (fun i hi => h3 (b + i) (by omega) (by omega)) (by rw [show b + (e - b) = e by omega]; exact h5)
  omega
/-! ===== what stands at a place ===== -/
def tkN (t : Nat) (f : Nat → Int32) (lo hi : Int32) (a : Nat) : Option (Int32 × Nat) := if sortF (bA t f (sk t f a)) = 2 ∧ toB t f (sk t f a) ≤ sk t f a + 2 ∧ ¬ inF (nv f (sk t f a) (toB t f (sk t f a) - sk t f a)) lo hi = 0 then some (nv f (sk t f a) (toB t f (sk t f a) - sk t f a), toB t f (sk t f a)) else none
def tkS (t : Nat) (f : Nat → Int32) (a : Nat) : Option Nat := if bA t f (sk t f a) = 59 then some (sk t f a + 1) else none
def tkW (t : Nat) (f : Nat → Int32) (j a : Nat) : Option Nat := if CW t f j (sk t f a) then some (sk t f a + wln j) else none
def gk (t : Nat) (f : Nat → Int32) (lo b : Nat) : Nat → Option Nat
  | 0 => none
  | n + 1 => match gk t f lo b n with
    | some j => some j
    | none => if CW t f (lo + n) b then some (lo + n) else none
theorem gk_none {t : Nat} {f : Nat → Int32} {lo b : Nat} : ∀ n, (∀ j, lo ≤ j → j < lo + n → ¬ CW t f j b) → gk t f lo b n = none
  | 0, _ => rfl
  | n + 1, h => by
    have e := gk_none n (fun j h1 h2 => h j h1 (by omega))
    show (match gk t f lo b n with | some j => some j | none => if CW t f (lo + n) b then some (lo + n) else none) = none
    rw [e]
    exact if_neg (h (lo + n) (by omega) (by omega))
theorem gk_some {t : Nat} {f : Nat → Int32} {lo b j : Nat} (hc : CW t f j b) : ∀ n, lo + n ≤ 16 → lo ≤ j → j < lo + n → gk t f lo b n = some j
  | 0, _, h1, h2 => absurd h2 (by omega)
  | n + 1, hn, h1, h2 => by
    show (match gk t f lo b n with | some j => some j | none => if CW t f (lo + n) b then some (lo + n) else none) = some j
    rcases Nat.lt_or_ge j (lo + n) with q | q
    · rw [gk_some hc n (by omega) h1 q]
    · have ej : j = lo + n := by omega
      have e := gk_none (t := t) (f := f) (lo := lo) (b := b) n (fun k k1 k2 hk => by
        have := mw_uniq (by omega) (by omega) (cw_mw hk) (cw_mw hc)
        omega)
      rw [e]
      subst ej
      exact if_pos hc
/-! ===== what a text tells, one after another ===== -/
theorem kind_of {t : Nat} {f : Nat → Int32} {lo n b j : Nat} (hn : lo + n ≤ 16) (h1 : lo ≤ j) (h2 : j < lo + n) (hm : MW t f j b) : (CW t f j b ∧ gk t f lo b n = some j) ∨ (Cap t f (b + wln j) ∧ gk t f lo b n = none) := by
  by_cases hc : CW t f j b
  · exact Or.inl ⟨hc, gk_some hc n hn h1 h2⟩
  · refine Or.inr ⟨mw_cap hm hc, gk_none n (fun k k1 k2 hk => hc ?_)⟩
    have := mw_uniq (by omega) (by omega) (cw_mw hk) hm
    rw [← this]; exact hk
theorem kind_no {t : Nat} {f : Nat → Int32} {lo n b : Nat} (h : ∀ j, lo ≤ j → j < lo + n → ¬ MW t f j b) : gk t f lo b n = none := gk_none n (fun j h1 h2 hc => h j h1 h2 (cw_mw hc))
theorem tkN_no {t : Nat} {f : Nat → Int32} {lo hi : Int32} {a : Nat} (h : ¬ sortF (bA t f (sk t f a)) = 2) : tkN t f lo hi a = none := if_neg (fun q => h q.1)
theorem Cap.tkN0 {t : Nat} {f : Nat → Int32} {c : Nat} (lo hi : Int32) (h : Cap t f c) : tkN t f lo hi c = none := tkN_no (by rw [h.skE]; exact h.num)
theorem Cap.tkS0 {t : Nat} {f : Nat → Int32} {c : Nat} (h : Cap t f c) : tkS t f c = none := if_neg (by rw [h.skE]; exact h.semi)
theorem Cap.gk0 {t : Nat} {f : Nat → Int32} {c lo n : Nat} (hn : lo + n ≤ 16) (h : Cap t f c) : gk t f lo (sk t f c) n = none := kind_no (fun j h1 h2 => by rw [h.skE]; exact h.word (by omega))
theorem tkW_of {t : Nat} {f : Nat → Int32} {j a : Nat} (hm : MW t f j (sk t f a)) : (CW t f j (sk t f a) ∧ tkW t f j a = some (sk t f a + wln j)) ∨ (Cap t f (sk t f a + wln j) ∧ tkW t f j a = none) := by
  by_cases hc : CW t f j (sk t f a)
  · exact Or.inl ⟨hc, if_pos hc⟩
  · exact Or.inr ⟨mw_cap hm hc, if_neg hc⟩
theorem tkW_no {t : Nat} {f : Nat → Int32} {j a : Nat} (hm : ¬ MW t f j (sk t f a)) : tkW t f j a = none := if_neg (fun hc => hm (cw_mw hc))
theorem tkW_other {t : Nat} {f : Nat → Int32} {j k a : Nat} (hj : j < 16) (hk : k < 16) (h : ¬ j = k) (hm : MW t f j (sk t f a)) : tkW t f k a = none := tkW_no (fun q => h (mw_uniq hj hk hm q))
theorem mat_lt {t : Nat} {f : Nat → Int32} {j b : Nat} (hj : j < 16) (h : mat t f j b) : b + wln j ≤ t := by
  have hp := wln_pos j hj
  have h1 := h (wln j - 1) (by omega)
  have h2 := wch_low j hj (wln j - 1) (by omega)
  rcases Nat.lt_or_ge (b + (wln j - 1)) t with q | q
  · omega
  · rw [bA_out q] at h1
    rw [← h1] at h2
    exact absurd (by decide) h2
def addG (d : Nat → Int32) (k x y : Int32) : Nat → Int32 := upd (upd (upd (upd d (6 + (d 1).toNatClampNeg) k) (18 + (d 1).toNatClampNeg) x) (30 + (d 1).toNatClampNeg) y) 1 (nI ((d 1).toNatClampNeg + 1))
def addO (d : Nat → Int32) (v : Int32) : Nat → Int32 := upd (upd d (42 + (d 2).toNatClampNeg) v) 2 (nI ((d 2).toNatClampNeg + 1))
def endD (d : Nat → Int32) (k p q : Int32) : Nat → Int32 := upd (upd (upd d 3 k) 4 p) 5 q
def gateP (t : Nat) (f : Nat → Int32) (d : Nat → Int32) (a : Nat) : Option ((Nat → Int32) × Nat) :=
  (gk t f 0 (sk t f a) 8).bind fun k => (tkN t f 0 (d 0 + d 1 - 1) (sk t f a + wln k)).bind fun x =>
    if k = 0 then (tkS t f x.2).bind fun a3 => some (addG d (nI k) x.1 (-1), a3)
    else (tkN t f 0 (d 0 + d 1 - 1) x.2).bind fun y => (tkS t f y.2).bind fun a4 => some (addG d (nI k) x.1 y.1, a4)
def gatesP (t : Nat) (f : Nat → Int32) : Nat → (Nat → Int32) → Nat → Option ((Nat → Int32) × Nat)
  | 0, d, a => some (d, a)
  | n + 1, d, a => match tkW t f 13 a with
    | none => some (d, a)
    | some a1 => (gateP t f d a1).bind fun q => gatesP t f n q.1 q.2
def outsP (t : Nat) (f : Nat → Int32) (last : Int32) : Nat → (Nat → Int32) → Nat → Option ((Nat → Int32) × Nat)
  | 0, d, a => some (d, a)
  | n + 1, d, a => if n = 6 ∨ sortF (bA t f (sk t f a)) = 2 then (tkN t f 0 last a).bind fun v => outsP t f last n (addO d v.1) v.2 else some (d, a)
def outsQ (t : Nat) (f : Nat → Int32) (last : Int32) (n : Nat) (d : Nat → Int32) (a : Nat) : Option ((Nat → Int32) × Nat) := (outsP t f last n d a).bind fun q => (tkS t f q.2).bind fun a3 => some (q.1, a3)
def taskP (t : Nat) (f : Nat → Int32) (d : Nat → Int32) (a : Nat) : Option ((Nat → Int32) × Nat) :=
  (gk t f 8 (sk t f a) 4).bind fun k => (tkN t f 1 (d 0) (sk t f a + wln k)).bind fun p => (tkN t f 0 (d 0 - p.1) p.2).bind fun q => (tkS t f q.2).bind fun a4 => some (endD d (nI (k - 8)) p.1 q.1, a4)
def restP (t : Nat) (f : Nat → Int32) (d : Nat → Int32) (a : Nat) : Option (Nat → Int32) :=
  (tkW t f 14 a).bind fun a5 => (outsQ t f (d 0 + d 1 - 1) 7 d a5).bind fun q => (tkW t f 15 q.2).bind fun a7 => (taskP t f q.1 a7).bind fun w => if sk t f w.2 = t then some w.1 else none
def allP (t : Nat) (f : Nat → Int32) (z : Nat → Int32) : Option (Nat → Int32) :=
  (tkW t f 12 0).bind fun a1 => (tkN t f 1 6 a1).bind fun n => (tkS t f n.2).bind fun a3 => (gatesP t f 12 (upd z 0 n.1) a3).bind fun q => restP t f q.1 q.2
/-- one turn of the outputs -/
theorem outs_semi {t : Nat} {f : Nat → Int32} {last : Int32} {n : Nat} {d : Nat → Int32} {a : Nat} (hn : n < 7) (h : bA t f (sk t f a) = 59) : outsQ t f last n d a = some (d, sk t f a + 1) := by
  have e : outsP t f last n d a = some (d, a) := by
    cases n with
    | zero => rfl
    | succ n =>
      show (if n = 6 ∨ sortF (bA t f (sk t f a)) = 2 then _ else some (d, a)) = some (d, a)
      rw [if_neg]
      rintro (q | q)
      · omega
      · rw [h] at q; exact absurd q (by decide)
  unfold outsQ
  rw [e]
  show (tkS t f a).bind _ = _
  have e2 : tkS t f a = some (sk t f a + 1) := if_pos h
  rw [e2]
  rfl
theorem outs_full {t : Nat} {f : Nat → Int32} {last : Int32} {d : Nat → Int32} {a : Nat} (h : ¬ bA t f (sk t f a) = 59) : outsQ t f last 0 d a = none := by
  have e2 : tkS t f a = none := if_neg h
  show (tkS t f a).bind _ = none
  rw [e2]
  rfl
theorem outs_num {t : Nat} {f : Nat → Int32} {last : Int32} {n : Nat} {d : Nat → Int32} {a : Nat} {v : Int32} {a2 : Nat} (h : tkN t f 0 last a = some (v, a2)) : outsQ t f last (n + 1) d a = outsQ t f last n (addO d v) a2 := by
  have hs : sortF (bA t f (sk t f a)) = 2 := by
    by_cases q : sortF (bA t f (sk t f a)) = 2
    · exact q
    · rw [tkN_no q] at h; exact absurd h (by simp)
  unfold outsQ
  have e : outsP t f last (n + 1) d a = outsP t f last n (addO d v) a2 := by
    show (if n = 6 ∨ sortF (bA t f (sk t f a)) = 2 then (tkN t f 0 last a).bind _ else some (d, a)) = _
    rw [if_pos (Or.inr hs), h]
    rfl
  rw [e]
theorem outs_none {t : Nat} {f : Nat → Int32} {last : Int32} {n : Nat} {d : Nat → Int32} {a : Nat} (h : tkN t f 0 last a = none) (h2 : n = 6 ∨ ¬ bA t f (sk t f a) = 59) : outsQ t f last (n + 1) d a = none := by
  unfold outsQ
  by_cases q : n = 6 ∨ sortF (bA t f (sk t f a)) = 2
  · have e : outsP t f last (n + 1) d a = none := by
      show (if n = 6 ∨ sortF (bA t f (sk t f a)) = 2 then (tkN t f 0 last a).bind _ else some (d, a)) = _
      rw [if_pos q, h]
      rfl
    rw [e]; rfl
  · have e : outsP t f last (n + 1) d a = some (d, a) := by
      show (if n = 6 ∨ sortF (bA t f (sk t f a)) = 2 then (tkN t f 0 last a).bind _ else some (d, a)) = _
      rw [if_neg q]
    have e2 : tkS t f a = none := if_neg (by
      rcases h2 with z | z
      · exact absurd (Or.inl z) q
      · exact z)
    rw [e]
    show (tkS t f a).bind _ = none
    rw [e2]
    rfl
theorem bA_lt {t : Nat} {f : Nat → Int32} {k : Nat} {c : Int32} (h : bA t f k = c) (hc : ¬ c = -1) : k < t := by
  rcases Nat.lt_or_ge k t with q | q
  · exact q
  · rw [bA_out q] at h; exact absurd h.symm hc
theorem sp_step {t : Nat} {f : Nat → Int32} {a k : Nat} (h : ∀ j, a ≤ j → j < k → bA t f j = 32) (hk : bA t f k = 32) : ∀ j, a ≤ j → j < k + 1 → bA t f j = 32 := fun j h1 h2 => by
  rcases Nat.lt_or_ge j k with q | q
  · exact h j h1 q
  · rw [show j = k by omega]; exact hk
theorem dg_step {t : Nat} {f : Nat → Int32} {a k : Nat} (h : ∀ j, a ≤ j → j < k → sortF (bA t f j) = 2) (hk : sortF (bA t f k) = 2) : ∀ j, a ≤ j → j < k + 1 → sortF (bA t f j) = 2 := fun j h1 h2 => by
  rcases Nat.lt_or_ge j k with q | q
  · exact h j h1 q
  · rw [show j = k by omega]; exact hk
theorem nv_step {f : Nat → Int32} {b k : Nat} (h : b ≤ k) : 10 * nv f b (k - b) + f k - 48 = nv f b (k + 1 - b) := by
  rw [show k + 1 - b = (k - b) + 1 by omega]
  show _ = 10 * nv f b (k - b) + f (b + (k - b)) - 48
  rw [show b + (k - b) = k by omega]
theorem num_yes {t : Nat} {f : Nat → Int32} {a k : Nat} {v lo hi : Int32} (h1 : sk t f a ≤ k) (h2 : k ≤ sk t f a + 3) (h3 : ∀ j, sk t f a ≤ j → j < k → sortF (bA t f j) = 2) (h4 : k = sk t f a + 3 ∨ ¬ sortF (bA t f k) = 2) (hv : v = nv f (sk t f a) (k - sk t f a)) (q : sk t f a < k ∧ k - sk t f a < 3 ∧ ¬ inF v lo hi = 0) : tkN t f lo hi a = some (v, k) := by
  have r := (num_run h1 h2 h3 h4).mp ⟨q.1, q.2.1⟩
  have e := num_end q.1 q.2.1 h3 h4
  unfold tkN
  rw [e, ← hv]
  exact if_pos ⟨r.1, by omega, q.2.2⟩
theorem num_no {t : Nat} {f : Nat → Int32} {a k : Nat} {v lo hi : Int32} (h1 : sk t f a ≤ k) (h2 : k ≤ sk t f a + 3) (h3 : ∀ j, sk t f a ≤ j → j < k → sortF (bA t f j) = 2) (h4 : k = sk t f a + 3 ∨ ¬ sortF (bA t f k) = 2) (hv : v = nv f (sk t f a) (k - sk t f a)) (q : ¬ (sk t f a < k ∧ k - sk t f a < 3 ∧ ¬ inF v lo hi = 0)) : tkN t f lo hi a = none := by
  refine if_neg (fun z => q ?_)
  have r := (num_run h1 h2 h3 h4).mpr ⟨z.1, z.2.1⟩
  have e := num_end r.1 r.2 h3 h4
  rw [e, ← hv] at z
  exact ⟨r.1, r.2, z.2.2⟩
/-- what isWord of the reference says -/
def wmM (t : Nat) (f : Nat → Int32) (a p n : Nat) : Prop := (∀ i, i < n → bA t f (a + i) = wdF 73 (p + i)) ∧ inF (bA t f (a + n)) 97 122 = 0
theorem wd_step {P : Nat → Prop} {n : Nat} (h : ∀ j, j < n → P j) (hn : P n) : ∀ j, j < n + 1 → P j := fun j hj => by
  rcases Nat.lt_or_ge j n with q | q
  · exact h j q
  · rw [show j = n by omega]; exact hn
theorem tkS_yes {t : Nat} {f : Nat → Int32} {a : Nat} (h : bA t f (sk t f a) = 59) : tkS t f a = some (sk t f a + 1) := if_pos h
theorem tkS_no {t : Nat} {f : Nat → Int32} {a : Nat} (h : ¬ bA t f (sk t f a) = 59) : tkS t f a = none := if_neg h
theorem nI_inj {a b : Nat} (ha : a < 2 ^ 31) (hb : b < 2 ^ 31) (h : nI a = nI b) : a = b := by
  have e : (nI a).toNatClampNeg = (nI b).toNatClampNeg := by rw [h]
  rw [nI_clamp ha, nI_clamp hb] at e
  exact e
/-! ===== the reference's steps, one lemma a way out ===== -/
def WR (t : Nat) (f : Nat → Int32) (lo hi : Int32) (a : Nat) (r : Int32) (a1 : Nat) : Prop := (r = -1 ∧ a1 = sk t f a ∧ ∀ j, j < 16 → ¬ inF (nI j) lo hi = 0 → ¬ MW t f j (sk t f a)) ∨ ∃ j, j < 16 ∧ ¬ inF (nI j) lo hi = 0 ∧ MW t f j (sk t f a) ∧ r = nI j - lo ∧ a1 = sk t f a + wln j
theorem inF_nI {j l h : Nat} (hj : j < 2 ^ 31) (hl : l < 2 ^ 31) (hh : h < 2 ^ 31) : ¬ inF (nI j) (nI l) (nI h) = 0 ↔ (l ≤ j ∧ j ≤ h) := by
  unfold inF
  by_cases h1 : j < l
  · rw [if_pos (by rw [nI_ltI hj hl]; exact h1)]
    exact ⟨fun q => absurd rfl q, fun q => absurd h1 (by omega)⟩
  · rw [if_neg (by rw [nI_ltI hj hl]; exact h1)]
    by_cases h2 : h < j
    · rw [if_pos (by rw [nI_ltI hh hj]; exact h2)]
      exact ⟨fun q => absurd rfl q, fun q => absurd h2 (by omega)⟩
    · rw [if_neg (by rw [nI_ltI hh hj]; exact h2)]
      exact ⟨fun _ => by omega, fun _ => by decide⟩
theorem wr_no {t : Nat} {f : Nat → Int32} {a a1 l h : Nat} {r : Int32} (hlh : l ≤ h) (h16 : h < 16) (w : WR t f (nI l) (nI h) a r a1) (c : r < 0) : ∀ j, l ≤ j → j ≤ h → ¬ MW t f j (sk t f a) := by
  rcases w with ⟨_, _, w⟩ | ⟨j, h1, h2, h3, h4, h5⟩
  · exact fun j j1 j2 => w j (by omega) ((inF_nI (by omega) (by omega) (by omega)).mpr ⟨j1, j2⟩)
  · rw [inF_nI (by omega) (by omega) (by omega)] at h2
    have e : nI j - nI l = nI (j - l) := pk_sub h2.1
    rw [h4, e, show (0 : Int32) = nI 0 from rfl, nI_ltI (by omega) (by decide)] at c
    omega
theorem wr_yes {t : Nat} {f : Nat → Int32} {a a1 l h : Nat} {r : Int32} (hlh : l ≤ h) (h16 : h < 16) (w : WR t f (nI l) (nI h) a r a1) (c : ¬ r < 0) : ∃ j, l ≤ j ∧ j ≤ h ∧ MW t f j (sk t f a) ∧ r = nI (j - l) ∧ a1 = sk t f a + wln j := by
  rcases w with ⟨w, _, _⟩ | ⟨j, h1, h2, h3, h4, h5⟩
  · rw [w] at c; exact absurd (by decide) c
  · rw [inF_nI (by omega) (by omega) (by omega)] at h2
    have e : nI j - nI l = nI (j - l) := pk_sub h2.1
    exact ⟨j, h2.1, h2.2, h3, by rw [h4, e], h5⟩
theorem addG_eq {d : Nat → Int32} {g : Nat} {k x y : Int32} (h : d 1 = nI g) (hg : g < 12) : addG d k x y = upd (upd (upd (upd d (6 + g) k) (18 + g) x) (30 + g) y) 1 (nI (g + 1)) := by
  unfold addG
  rw [h, nI_clamp (by omega)]
theorem addO_eq {d : Nat → Int32} {g : Nat} {v : Int32} (h : d 2 = nI g) (hg : g < 12) : addO d v = upd (upd d (42 + g) v) 2 (nI (g + 1)) := by
  unfold addO
  rw [h, nI_clamp (by omega)]
theorem upd_upd {f : Nat → Int32} {k : Nat} {a b : Int32} : upd (upd f k a) k b = upd f k b := by
  funext i
  by_cases e : i = k
  · subst e; rw [pk_us, pk_us]
  · rw [pk_un e, pk_un e, pk_un e]
section
variable {t : Nat} {f : Nat → Int32} {d : Nat → Int32} {a j : Nat}
theorem gk_of_tkN {lo n : Nat} {l h : Int32} {x : Int32 × Nat} (hn : lo + n ≤ 16) (h1 : lo ≤ j) (h2 : j < lo + n) (hm : MW t f j (sk t f a)) (hx : tkN t f l h (sk t f a + wln j) = some x) : gk t f lo (sk t f a) n = some j := by
  rcases kind_of hn h1 h2 hm with ⟨_, q⟩ | ⟨q, _⟩
  · exact q
  · rw [q.tkN0] at hx; exact absurd hx (by simp)
theorem gate_w (h : ∀ j, 0 ≤ j → j ≤ 7 → ¬ MW t f j (sk t f a)) : gateP t f d a = none := by
  unfold gateP
  rw [kind_no (fun j h1 h2 => h j h1 (by omega))]
  rfl
theorem gate_x (hj : j ≤ 7) (hm : MW t f j (sk t f a)) (h : tkN t f 0 (d 0 + d 1 - 1) (sk t f a + wln j) = none) : gateP t f d a = none := by
  unfold gateP
  rcases kind_of (lo := 0) (n := 8) (by omega) (by omega) (by omega) hm with ⟨_, q⟩ | ⟨_, q⟩
  · rw [q]
    show (tkN t f 0 (d 0 + d 1 - 1) (sk t f a + wln j)).bind _ = none
    rw [h]; rfl
  · rw [q]; rfl
theorem gate_0 (hj : j ≤ 7) (hm : MW t f j (sk t f a)) {x : Int32} {a2 : Nat} (h : tkN t f 0 (d 0 + d 1 - 1) (sk t f a + wln j) = some (x, a2)) (h0 : j = 0) : gateP t f d a = (tkS t f a2).bind fun a3 => some (addG d (nI j) x (-1), a3) := by
  unfold gateP
  rw [gk_of_tkN (lo := 0) (n := 8) (by omega) (by omega) (by omega) hm h]
  show (tkN t f 0 (d 0 + d 1 - 1) (sk t f a + wln j)).bind _ = _
  rw [h]
  show (if j = 0 then _ else _) = _
  rw [if_pos h0]
theorem gate_1 (hj : j ≤ 7) (hm : MW t f j (sk t f a)) {x : Int32} {a2 : Nat} (h : tkN t f 0 (d 0 + d 1 - 1) (sk t f a + wln j) = some (x, a2)) (h0 : ¬ j = 0) : gateP t f d a = (tkN t f 0 (d 0 + d 1 - 1) a2).bind fun y => (tkS t f y.2).bind fun a4 => some (addG d (nI j) x y.1, a4) := by
  unfold gateP
  rw [gk_of_tkN (lo := 0) (n := 8) (by omega) (by omega) (by omega) hm h]
  show (tkN t f 0 (d 0 + d 1 - 1) (sk t f a + wln j)).bind _ = _
  rw [h]
  show (if j = 0 then _ else _) = _
  rw [if_neg h0]
theorem task_w (h : ∀ j, 8 ≤ j → j ≤ 11 → ¬ MW t f j (sk t f a)) : taskP t f d a = none := by
  unfold taskP
  rw [kind_no (fun j h1 h2 => h j h1 (by omega))]
  rfl
theorem task_p (h8 : 8 ≤ j) (hj : j ≤ 11) (hm : MW t f j (sk t f a)) (h : tkN t f 1 (d 0) (sk t f a + wln j) = none) : taskP t f d a = none := by
  unfold taskP
  rcases kind_of (lo := 8) (n := 4) (by omega) (by omega) (by omega) hm with ⟨_, q⟩ | ⟨_, q⟩
  · rw [q]
    show (tkN t f 1 (d 0) (sk t f a + wln j)).bind _ = none
    rw [h]; rfl
  · rw [q]; rfl
theorem task_q (h8 : 8 ≤ j) (hj : j ≤ 11) (hm : MW t f j (sk t f a)) {p : Int32} {a2 : Nat} (h : tkN t f 1 (d 0) (sk t f a + wln j) = some (p, a2)) : taskP t f d a = (tkN t f 0 (d 0 - p) a2).bind fun q => (tkS t f q.2).bind fun a4 => some (endD d (nI (j - 8)) p q.1, a4) := by
  unfold taskP
  rw [gk_of_tkN (lo := 8) (n := 4) (by omega) (by omega) (by omega) hm h]
  show (tkN t f 1 (d 0) (sk t f a + wln j)).bind _ = _
  rw [h]
  rfl
end
theorem or_of {z : Int32} {α : Type} {X : Option α} {p : α} {Q : Prop} (hz : (z = 1 ∧ Q) ∨ (z = 0 ∧ ¬ Q)) (c : ¬ z = 0) (h : Q → X = some p) : (z = 1 ∧ X = some p) ∨ (z = 0 ∧ X = none) := by
  rcases hz with ⟨a, b⟩ | ⟨a, b⟩
  · exact Or.inl ⟨a, h b⟩
  · exact absurd a c
theorem or_no {z : Int32} {α : Type} {X : Option α} {p : α} {Q : Prop} (hz : (z = 1 ∧ Q) ∨ (z = 0 ∧ ¬ Q)) (c : z = 0) (h : ¬ Q → X = none) : (z = 1 ∧ X = some p) ∨ (z = 0 ∧ X = none) := by
  rcases hz with ⟨a, b⟩ | ⟨a, b⟩
  · rw [a] at c; exact absurd c (by decide)
  · exact Or.inr ⟨a, h b⟩
theorem or_yes {z : Int32} {A B : Prop} (hz : (z = 1 ∧ A) ∨ (z = 0 ∧ B)) (c : ¬ z = 0) : A := by
  rcases hz with ⟨_, b⟩ | ⟨a, _⟩
  · exact b
  · exact absurd a c
theorem or_not {z : Int32} {A B : Prop} (hz : (z = 1 ∧ A) ∨ (z = 0 ∧ B)) (c : z = 0) : B := by
  rcases hz with ⟨a, _⟩ | ⟨_, b⟩
  · rw [a] at c; exact absurd c (by decide)
  · exact b
theorem or_01 {z : Int32} {A B : Prop} (hz : (z = 1 ∧ A) ∨ (z = 0 ∧ B)) : z = 0 ∨ z = 1 := by
  rcases hz with ⟨a, _⟩ | ⟨a, _⟩
  · exact Or.inr a
  · exact Or.inl a
theorem or_bind {z : Int32} {α β : Type} {X : Option α} {Y : Option β} {p : α} {q : β} (hz : (z = 1 ∧ X = some p) ∨ (z = 0 ∧ X = none)) (h1 : X = some p → Y = some q) (h0 : X = none → Y = none) : (z = 1 ∧ Y = some q) ∨ (z = 0 ∧ Y = none) := by
  rcases hz with ⟨a, b⟩ | ⟨a, b⟩
  · exact Or.inl ⟨a, h1 b⟩
  · exact Or.inr ⟨a, h0 b⟩
theorem wm_step {E : Nat → Prop} {n j : Nat} {zz z : Int32} (hj : j < n) (hI : (zz = 1 ∧ ∀ i, i < j → E i) ∨ (zz = 0 ∧ ¬ ∀ i, i < n → E i)) (hz : (z = 1 ∧ ¬ zz = 0 ∧ E j) ∨ (z = 0 ∧ (zz = 0 ∨ ¬ E j))) : (z = 1 ∧ ∀ i, i < j + 1 → E i) ∨ (z = 0 ∧ ¬ ∀ i, i < n → E i) := by
  rcases hz with ⟨a, b, c⟩ | ⟨a, b | b⟩
  · rcases hI with ⟨_, q⟩ | ⟨q, _⟩
    · exact Or.inl ⟨a, wd_step q c⟩
    · exact absurd q b
  · rcases hI with ⟨q, _⟩ | ⟨_, q⟩
    · rw [q] at b; exact absurd b (by decide)
    · exact Or.inr ⟨a, q⟩
  · exact Or.inr ⟨a, fun q => b (q j hj)⟩
theorem wm_yes {t : Nat} {f : Nat → Int32} {a p n j : Nat} {zz : Int32} (hI : (zz = 1 ∧ ∀ i, i < j → bA t f (a + i) = wdF 73 (p + i)) ∨ (zz = 0 ∧ ¬ ∀ i, i < n → bA t f (a + i) = wdF 73 (p + i))) (hj : j = n) (c : ¬ zz = 0) (h : inF (bA t f (a + n)) 97 122 = 0) : wmM t f a p n := by
  subst hj
  exact ⟨or_yes hI c, h⟩
theorem wm_no {t : Nat} {f : Nat → Int32} {a p n j : Nat} {zz : Int32} (hI : (zz = 1 ∧ ∀ i, i < j → bA t f (a + i) = wdF 73 (p + i)) ∨ (zz = 0 ∧ ¬ ∀ i, i < n → bA t f (a + i) = wdF 73 (p + i))) (c : zz = 0) : ¬ wmM t f a p n := fun q => (or_not hI c) q.1
