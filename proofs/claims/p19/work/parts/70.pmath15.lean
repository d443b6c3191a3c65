/-! ===== the dearest terms ===== -/
theorem abs_of {x : Int} (h0 : -2147483648 < x) (h1 : x < 2147483648) : absI (Int32.ofInt x) = nI x.natAbs := by
  have e : (Int32.ofInt x).toInt = x := of32_z (by omega) h1
  have z : (0 : Int32).toInt = 0 := by decide
  unfold absI
  by_cases c : (0 : Int32) ≤ Int32.ofInt x
  · rw [if_pos c]
    rw [Int32.le_iff_toInt_le, e, z] at c
    apply Int32.toInt_inj.mp
    rw [e, nI_toInt (by omega)]; omega
  · rw [if_neg c]
    rw [Int32.le_iff_toInt_le, e, z] at c
    have e2 : (0 : Int32) - Int32.ofInt x = Int32.ofInt (-x) := by
      rw [show (0 : Int32) = Int32.ofInt 0 from rfl, ← Int32.ofInt_sub]; congr 1; omega
    rw [e2]
    apply Int32.toInt_inj.mp
    rw [of32_z (by omega) (by omega), nI_toInt (by omega)]; omega
def prc (A : Nat → Nat) (i j : Nat) : Prop := A j < A i ∨ (A i = A j ∧ i < j)
def dzA (A : Nat → Nat) (j i : Nat) : Int32 := if A j < A i then 1 else if A i = A j then (if j ≤ i then 0 else 1) else 0
theorem dzA_pos {A : Nat → Nat} {i j : Nat} (h : prc A i j) : dzA A j i = 1 := by
  unfold dzA
  rcases h with h | ⟨h, h2⟩
  · rw [if_pos h]
  · rw [if_neg (by omega), if_pos h, if_neg (by omega)]
theorem dzA_neg {A : Nat → Nat} {i j : Nat} (h : ¬ prc A i j) : dzA A j i = 0 := by
  unfold dzA
  by_cases a : A j < A i
  · exact absurd (Or.inl a) h
  · rw [if_neg a]
    by_cases b : A i = A j
    · rw [if_pos b]
      by_cases c : j ≤ i
      · rw [if_pos c]
      · exact absurd (Or.inr ⟨b, by omega⟩) h
    · rw [if_neg b]
noncomputable def cab (P : Int32 → Int) (j : Nat) : Nat := (P (cset P j)).natAbs
theorem dez_A {P : Int32 → Int} (hb : BdP P) {i j : Nat} (hi : i < 2 ^ 31) (hj : j < 2 ^ 31) : dez (cco P) j i = dzA (cab P) j i := by
  have ei : absI (cco P i) = nI (cab P i) := abs_of (hb _).1 (hb _).2
  have ej : absI (cco P j) = nI (cab P j) := abs_of (hb _).1 (hb _).2
  have li : cab P i < 2 ^ 31 := by have := hb (cset P i); unfold cab; omega
  have lj : cab P j < 2 ^ 31 := by have := hb (cset P j); unfold cab; omega
  unfold dez dzA
  rw [ei, ej]
  have a1 : (nI (cab P j) < nI (cab P i)) = (cab P j < cab P i) := propext (nI_ltI lj li)
  have a2 : (nI (cab P i) = nI (cab P j)) = (cab P i = cab P j) := propext (nI_eq li lj)
  have a3 : (nI j ≤ nI i) = (j ≤ i) := propext (nI_leI hj hi)
  simp only [a1, a2, a3]
def szL (v : Int64) : Int64 := if 0 ≤ lg_cmp v 0 then v else -v
noncomputable def Lc (P : Int32 → Int) (j : Nat) : Int64 := Int64.ofInt (P (cset P j))
noncomputable def dzL (P : Int32 → Int) (j i : Nat) : Int32 := if 0 < lg_cmp (szL (Lc P i) - szL (Lc P j)) 0 then 1 else if lg_cmp (szL (Lc P i) - szL (Lc P j)) 0 = 0 then (if nI j ≤ nI i then 0 else 1) else 0
theorem szL_of {x : Int} (h0 : -2147483648 < x) (h1 : x < 2147483648) : szL (Int64.ofInt x) = Int64.ofInt (x.natAbs : Int) := by
  have e : (Int64.ofInt x).toInt = x := of64_z (by omega) h1
  have z : (0 : Int64).toInt = 0 := by decide
  unfold szL
  by_cases c : 0 ≤ lg_cmp (Int64.ofInt x) 0
  · rw [if_pos c]
    rw [lg_cmp_ge, Int64.le_iff_toInt_le, e, z] at c
    congr 1; omega
  · rw [if_neg c]
    rw [lg_cmp_ge, Int64.le_iff_toInt_le, e, z] at c
    rw [← Int64.ofInt_neg]; congr 1; omega
theorem dzL_A {P : Int32 → Int} (hb : BdP P) {i j : Nat} (hi : i < 2 ^ 31) (hj : j < 2 ^ 31) : dzL P j i = dzA (cab P) j i := by
  have ei : szL (Lc P i) = Int64.ofInt (cab P i : Int) := szL_of (hb _).1 (hb _).2
  have ej : szL (Lc P j) = Int64.ofInt (cab P j : Int) := szL_of (hb _).1 (hb _).2
  have li : cab P i < 2 ^ 31 := by have := hb (cset P i); unfold cab; omega
  have lj : cab P j < 2 ^ 31 := by have := hb (cset P j); unfold cab; omega
  have ed : (szL (Lc P i) - szL (Lc P j)).toInt = (cab P i : Int) - (cab P j : Int) := by
    rw [ei, ej, ← Int64.ofInt_sub]
    exact of64_z (by omega) (by omega)
  have z : (0 : Int64).toInt = 0 := by decide
  have a1 : (0 < lg_cmp (szL (Lc P i) - szL (Lc P j)) 0) = (cab P j < cab P i) := propext (by
    rw [lg_cmp_gt, Int64.lt_iff_toInt_lt, ed, z]; omega)
  have a2 : (lg_cmp (szL (Lc P i) - szL (Lc P j)) 0 = 0) = (cab P i = cab P j) := propext (by
    rw [lg_cmp_eq, ← Int64.toInt_inj, ed, z]; omega)
  have a3 : (nI j ≤ nI i) = (j ≤ i) := propext (nI_leI hj hi)
  unfold dzL dzA
  simp only [a1, a2, a3]
def cnA (A : Nat → Nat) (j : Nat) : Nat → Nat
  | 0 => 0
  | n + 1 => cnA A j n + (if A j < A n then 1 else if A n = A j then (if j ≤ n then 0 else 1) else 0)
theorem cnA_le {A : Nat → Nat} {j : Nat} : ∀ n, cnA A j n ≤ n
  | 0 => Nat.le_refl 0
  | n + 1 => by
    have := cnA_le (A := A) (j := j) n
    show cnA A j n + _ ≤ n + 1
    split
    · omega
    · split
      · split <;> omega
      · omega
theorem fold_A {A : Nat → Nat} {j : Nat} {p : Nat → Int32 → Int32} : ∀ n, (∀ i, i < n → ∀ a, p i a = a + dzA A j i) → foldF p n 0 = nI (cnA A j n)
  | 0, _ => rfl
  | n + 1, h => by
    show p n (foldF p n 0) = nI (cnA A j n + _)
    rw [h n (Nat.lt_succ_self n), fold_A n (fun i hi a => h i (by omega) a), ← nI_add]
    congr 1
    unfold dzA
    by_cases a : A j < A n
    · rw [if_pos a, if_pos a]; rfl
    · rw [if_neg a, if_neg a]
      by_cases b : A n = A j
      · rw [if_pos b, if_pos b]
        by_cases c : j ≤ n
        · rw [if_pos c, if_pos c]; rfl
        · rw [if_neg c, if_neg c]; rfl
      · rw [if_neg b, if_neg b]; rfl
theorem st_prc {A : Nat → Nat} {i j : Nat} : (if A j < A i then 1 else if A i = A j then (if j ≤ i then 0 else 1) else 0 : Nat) = 1 ∧ prc A i j ∨ (if A j < A i then 1 else if A i = A j then (if j ≤ i then 0 else 1) else 0 : Nat) = 0 ∧ ¬ prc A i j := by
  by_cases a : A j < A i
  · exact Or.inl ⟨if_pos a, Or.inl a⟩
  · by_cases b : A i = A j
    · by_cases c : j ≤ i
      · refine Or.inr ⟨by rw [if_neg a, if_pos b, if_pos c], fun q => ?_⟩
        unfold prc at q; omega
      · exact Or.inl ⟨by rw [if_neg a, if_pos b, if_neg c], Or.inr ⟨b, by omega⟩⟩
    · refine Or.inr ⟨by rw [if_neg a, if_neg b], fun q => ?_⟩
      unfold prc at q; omega
theorem cnA_mono {A : Nat → Nat} {j k : Nat} (h : ∀ i, prc A i j → prc A i k) : ∀ n, cnA A j n ≤ cnA A k n
  | 0 => Nat.le_refl 0
  | n + 1 => by
    have ih := cnA_mono h n
    show cnA A j n + _ ≤ cnA A k n + _
    rcases @st_prc A n j with ⟨a, p⟩ | ⟨a, p⟩
    · rcases @st_prc A n k with ⟨b, q⟩ | ⟨b, q⟩
      · rw [a, b]; omega
      · exact absurd (h n p) q
    · rw [a]; omega
theorem cnA_lt {A : Nat → Nat} {j k w : Nat} (h : ∀ i, prc A i j → prc A i k) (hw : prc A w k) (hn : ¬ prc A w j) : ∀ n, w < n → cnA A j n < cnA A k n
  | 0, hl => absurd hl (Nat.not_lt_zero w)
  | n + 1, hl => by
    show cnA A j n + _ < cnA A k n + _
    by_cases e : w = n
    · subst e
      have ih := cnA_mono h w
      rcases @st_prc A w j with ⟨a, p⟩ | ⟨a, p⟩
      · exact absurd p hn
      · rcases @st_prc A w k with ⟨b, q⟩ | ⟨b, q⟩
        · rw [a, b]; omega
        · exact absurd hw q
    · have ih := cnA_lt h hw hn n (by omega)
      rcases @st_prc A n j with ⟨a, p⟩ | ⟨a, p⟩
      · rcases @st_prc A n k with ⟨b, q⟩ | ⟨b, q⟩
        · rw [a, b]; omega
        · exact absurd (h n p) q
      · rw [a]; omega
theorem cnA_ne {A : Nat → Nat} {m j k : Nat} (hj : j < m) (hk : k < m) (h : ¬ j = k) : ¬ cnA A j m = cnA A k m := by
  have t : ∀ {x y : Nat}, prc A x y → ∀ i, prc A i x → prc A i y := fun {x y} p i q => by
    unfold prc at p q ⊢; omega
  have c : prc A j k ∨ prc A k j := by unfold prc; omega
  rcases c with c | c
  · have := cnA_lt (t c) c (show ¬ prc A j j by unfold prc; omega) m hj; omega
  · have := cnA_lt (t c) c (show ¬ prc A k k by unfold prc; omega) m hk; omega
noncomputable def dl1 (P : Int32 → Int) (j i : Nat) (a : Int32) : Int32 := a + dzL P j i
noncomputable def fdL (P : Int32 → Int) (m : Nat) (r : Int32) : Nat → Int32
  | 0 => -1
  | n + 1 => if foldF (dl1 P n) m 0 = r then cset P n else fdL P m r n
theorem dear_eq {P : Int32 → Int} {m : Nat} {r : Int32} (hb : BdP P) (hm : m ≤ 40) : dsF (cco P) (cset P) m r m 0 = fdL P m r m := by
  have eR : ∀ j, j < m → foldF (de1 (cco P) j) m 0 = nI (cnA (cab P) j m) := fun j hj => fold_A m (fun i hi a => by
    show a + dez (cco P) j i = _
    rw [dez_A hb (by omega) (by omega)])
  have eL : ∀ j, j < m → foldF (dl1 P j) m 0 = nI (cnA (cab P) j m) := fun j hj => fold_A m (fun i hi a => by
    show a + dzL P j i = _
    rw [dzL_A hb (by omega) (by omega)])
  have hit : ∀ n j k, j + n = m → j ≤ k → k < m → nI (cnA (cab P) k m) = r → dsF (cco P) (cset P) m r n j = cset P k := by
    intro n
    induction n with
    | zero => intro j k h1 h2 h3; omega
    | succ n ih =>
      intro j k h1 h2 h3 h4
      show (if foldF (de1 (cco P) j) m 0 = r then cset P j else dsF (cco P) (cset P) m r n (j + 1)) = _
      rw [eR j (by omega)]
      by_cases e : j = k
      · subst e; rw [if_pos h4]
      · rw [if_neg (fun q => cnA_ne (A := cab P) (show j < m by omega) h3 e (nI_inj (by have := cnA_le (A := cab P) (j := j) m; omega) (by have := cnA_le (A := cab P) (j := k) m; omega) (q.trans h4.symm)))]
        exact ih (j + 1) k (by omega) (by omega) h3 h4
  have miss : ∀ n j, j + n = m → (∀ k, k < m → ¬ nI (cnA (cab P) k m) = r) → dsF (cco P) (cset P) m r n j = -1 := by
    intro n
    induction n with
    | zero => intro j _ _; rfl
    | succ n ih =>
      intro j h1 h2
      show (if foldF (de1 (cco P) j) m 0 = r then cset P j else dsF (cco P) (cset P) m r n (j + 1)) = _
      rw [eR j (by omega), if_neg (h2 j (by omega))]
      exact ih (j + 1) (by omega) h2
  have hit2 : ∀ n k, n ≤ m → k < n → nI (cnA (cab P) k m) = r → fdL P m r n = cset P k := by
    intro n
    induction n with
    | zero => intro k _ h; omega
    | succ n ih =>
      intro k h1 h2 h4
      show (if foldF (dl1 P n) m 0 = r then cset P n else fdL P m r n) = _
      rw [eL n (by omega)]
      by_cases e : n = k
      · subst e; rw [if_pos h4]
      · rw [if_neg (fun q => cnA_ne (A := cab P) (show n < m by omega) (show k < m by omega) e (nI_inj (by have := cnA_le (A := cab P) (j := n) m; omega) (by have := cnA_le (A := cab P) (j := k) m; omega) (q.trans h4.symm)))]
        exact ih k (by omega) (by omega) h4
  have miss2 : ∀ n, n ≤ m → (∀ k, k < m → ¬ nI (cnA (cab P) k m) = r) → fdL P m r n = -1 := by
    intro n
    induction n with
    | zero => intro _ _; rfl
    | succ n ih =>
      intro h1 h2
      show (if foldF (dl1 P n) m 0 = r then cset P n else fdL P m r n) = _
      rw [eL n (by omega), if_neg (h2 n (by omega))]
      exact ih (by omega) h2
  by_cases c : ∃ k, k < m ∧ nI (cnA (cab P) k m) = r
  · obtain ⟨k, hk, e⟩ := c
    rw [hit m 0 k (by omega) (by omega) hk e, hit2 m k (Nat.le_refl m) hk e]
  · have c2 : ∀ k, k < m → ¬ nI (cnA (cab P) k m) = r := fun k hk e => c ⟨k, hk, e⟩
    rw [miss m 0 (by omega) c2, miss2 m (Nat.le_refl m) c2]
