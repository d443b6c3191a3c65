theorem outP_no {t : Nat} {f d : Nat → Int32} {a : Nat} (h : tkW t f 14 a = none) : outP t f d a = none := by
  unfold outP
  rw [h]; rfl
theorem outP_eq {t : Nat} {f d : Nat → Int32} {a u : Nat} (h : tkW t f 14 a = some u) : outP t f d a = outsQ t f (d 0 + d 1 - 1) 7 d u := by
  unfold outP
  rw [h]; rfl
theorem outsQ_of {t : Nat} {f d dd : Nat → Int32} {last : Int32} {n u aa : Nat} (h : outsP t f last n d u = some (dd, aa)) : outsQ t f last n d u = (tkS t f aa).bind fun a3 => some (dd, a3) := by
  unfold outsQ
  rw [h]; rfl
theorem outsQ_no {t : Nat} {f d : Nat → Int32} {last : Int32} {n u : Nat} (h : outsP t f last n d u = none) : outsQ t f last n d u = none := by
  unfold outsQ
  rw [h]; rfl
theorem fr_add {d dd : Nat → Int32} {v : Int32} (h : ∀ i, i < 42 → ¬ i = 2 → dd i = d i) : ∀ i, i < 42 → ¬ i = 2 → addO dd v i = d i := fun i h1 h2 => (addO_lo h1 h2).trans (h i h1 h2)
theorem tskP_no {t : Nat} {f d : Nat → Int32} {a : Nat} (h : tkW t f 15 a = none) : tskP t f d a = none := by
  unfold tskP
  rw [h]; rfl
theorem tskP_eq {t : Nat} {f d : Nat → Int32} {a u : Nat} (h : tkW t f 15 a = some u) : tskP t f d a = taskP t f d u := by
  unfold tskP
  rw [h]; rfl
theorem sort_0 {c : Int32} (h : sortF c = 0) : c = -1 := by
  by_cases q : c = -1
  · exact q
  · exfalso
    have s3 : ∀ c, ¬ slF c = 0 := by
      intro c
      unfold slF sl2F
      by_cases h1 : c < 97 <;> by_cases h2 : 122 < c <;> by_cases h3 : c < 65 <;> by_cases h4 : 90 < c <;> simp [h1, h2, h3, h4]
    unfold sortF at h
    rw [if_neg q] at h
    by_cases h1 : c < 48
    · rw [if_pos h1] at h; exact s3 c h
    · rw [if_neg h1] at h
      by_cases h2 : 57 < c
      · rw [if_pos h2] at h; exact s3 c h
      · rw [if_neg h2] at h; exact absurd h (by decide)
theorem end_yes {t : Nat} {f : Nat → Int32} {a : Nat} (ha : a ≤ t) (htx : ∀ k, k < t → ¬ f k = -1) (h : sortF (bA t f (sk t f a)) = 0) : sk t f a = t := by
  have h2 := sort_0 h
  have h3 := sk_le (f := f) ha
  rcases Nat.lt_or_ge (sk t f a) t with q | q
  · rw [bA_in q] at h2; exact absurd h2 (htx _ q)
  · omega
theorem end_no {t : Nat} {f : Nat → Int32} {a : Nat} (h : ¬ sortF (bA t f (sk t f a)) = 0) : ¬ sk t f a = t := fun e => h (by rw [e, bA_out (Nat.le_refl _)]; rfl)
/-- the first one's circuit (or draft) against the reference's row -/
def RC (yI yG yO yK yP yQ : Int32) (k1 k2 k3 k4 d : Nat → Int32) : Prop := yI = d 0 ∧ yG = d 1 ∧ yO = d 2 ∧ yK = d 3 ∧ yP = d 4 ∧ yQ = d 5 ∧ ∃ g o, g ≤ 12 ∧ o ≤ 7 ∧ d 1 = nI g ∧ d 2 = nI o ∧ GA k1 k2 k3 d g ∧ GO k4 d o
theorem all_i {t : Nat} {f z : Nat → Int32} (h : inP t f 0 = none) : allP t f z = none := by
  rw [all_eq, h]; rfl
theorem all_g {t : Nat} {f z : Nat → Int32} {n : Int32} {a : Nat} (h : inP t f 0 = some (n, a)) (h2 : gatesP t f 12 (upd z 0 n) a = none) : allP t f z = none := by
  rw [all_eq, h]
  show (gatesP t f 12 (upd z 0 n) a).bind _ = none
  rw [h2]; rfl
theorem all_o {t : Nat} {f z : Nat → Int32} {n : Int32} {a : Nat} (h : inP t f 0 = some (n, a)) {dA : Nat → Int32} {a2 : Nat} (h2 : gatesP t f 12 (upd z 0 n) a = some (dA, a2)) (h3 : outP t f dA a2 = none) : allP t f z = none := by
  rw [all_eq, h]
  show (gatesP t f 12 (upd z 0 n) a).bind _ = none
  rw [h2]
  show (outP t f dA a2).bind _ = none
  rw [h3]; rfl
theorem all_t {t : Nat} {f z : Nat → Int32} {n : Int32} {a : Nat} (h : inP t f 0 = some (n, a)) {dA : Nat → Int32} {a2 : Nat} (h2 : gatesP t f 12 (upd z 0 n) a = some (dA, a2)) {dB : Nat → Int32} {a3 : Nat} (h3 : outP t f dA a2 = some (dB, a3)) (h4 : tskP t f dB a3 = none) : allP t f z = none := by
  rw [all_eq, h]
  show (gatesP t f 12 (upd z 0 n) a).bind _ = none
  rw [h2]
  show (outP t f dA a2).bind _ = none
  rw [h3]
  show (tskP t f dB a3).bind _ = none
  rw [h4]; rfl
theorem all_e {t : Nat} {f z : Nat → Int32} {n : Int32} {a : Nat} (h : inP t f 0 = some (n, a)) {dA : Nat → Int32} {a2 : Nat} (h2 : gatesP t f 12 (upd z 0 n) a = some (dA, a2)) {dB : Nat → Int32} {a3 : Nat} (h3 : outP t f dA a2 = some (dB, a3)) {dC : Nat → Int32} {a4 : Nat} (h4 : tskP t f dB a3 = some (dC, a4)) : allP t f z = if sk t f a4 = t then some dC else none := by
  rw [all_eq, h]
  show (gatesP t f 12 (upd z 0 n) a).bind _ = _
  rw [h2]
  show (outP t f dA a2).bind _ = _
  rw [h3]
  show (tskP t f dB a3).bind _ = _
  rw [h4]; rfl
theorem all_rc {z dA dB dC : Nat → Int32} {n yI yG yO yK yP yQ : Int32} {k1 k2 k3 k4 : Nat → Int32} {g o : Nat} (hI : upd z 0 n 0 = yI) (hA0 : dA 0 = upd z 0 n 0) (hg : g ≤ 12) (hdg : dA 1 = nI g) (hyg : yG = nI g) (hGA : GA k1 k2 k3 dA g) (hBf : ∀ i, i < 42 → ¬ i = 2 → dB i = dA i) (ho : o ≤ 7) (hdo : dB 2 = nI o) (hyo : yO = nI o) (hGO : GO k4 dB o) (h3 : yK = dC 3) (h4 : yP = dC 4) (h5 : yQ = dC 5) (hCf : ∀ i, i < 3 ∨ 6 ≤ i → dC i = dB i) : RC yI yG yO yK yP yQ k1 k2 k3 k4 dC := by
  have e0 : dC 0 = dA 0 := (hCf 0 (by omega)).trans (hBf 0 (by omega) (by omega))
  have e1 : dC 1 = dA 1 := (hCf 1 (by omega)).trans (hBf 1 (by omega) (by omega))
  have e2 : dC 2 = dB 2 := hCf 2 (by omega)
  refine ⟨hI.symm.trans (hA0.symm.trans e0.symm), hyg.trans (hdg.symm.trans e1.symm), hyo.trans (hdo.symm.trans e2.symm), h3, h4, h5, g, o, hg, ho, e1.trans hdg, e2.trans hdo, ?_, ?_⟩
  · intro j hj
    obtain ⟨a, b, c⟩ := hGA j hj
    rw [hCf _ (by omega), hCf _ (by omega), hCf _ (by omega), hBf _ (by omega) (by omega), hBf _ (by omega) (by omega), hBf _ (by omega) (by omega)]
    exact ⟨a, b, c⟩
  · intro j hj
    rw [hCf _ (by omega)]
    exact hGO j hj
