/-! ===== words for the reference's stages ===== -/
theorem lsh_of : ∀ i, i < 13 → ((1 : Int64) <<< ((nI i).toInt64 &&& 63)) = Int64.ofInt ((2 ^ i : Nat) : Int) := by decide +kernel
theorem nlsh_of {i : Nat} (hi : i < 13) : (-((1 : Int64) <<< ((nI i).toInt64 &&& 63))) = Int64.ofInt (-((2 ^ i : Nat) : Int)) := by
  rw [Int64.ofInt_neg, lsh_of i hi]
theorem m3lsh_of {i : Nat} (hi : i < 13) : (-3) * ((1 : Int64) <<< ((nI i).toInt64 &&& 63)) = Int64.ofInt (-3 * ((2 ^ i : Nat) : Int)) := by
  rw [Int64.ofInt_mul, lsh_of i hi]; rfl
def rCf (k : Int32) (i j : Nat) : Int := if k = 0 then -((2 ^ i : Nat) : Int) else if k < 3 then -((2 ^ (i + j) : Nat) : Int) else -3 * ((2 ^ i : Nat) : Int)
def rSt (k : Int32) (p i j : Nat) : Int32 := bitI i ||| (if k = 1 then bitI (p + j) else if k = 2 then bitI j else 0)
def rM (k : Int32) (p q : Nat) : Nat := if k = 1 then q else if k = 2 then p else 1
def rN (k : Int32) (p i : Nat) (P : Int32 → Int) : Nat → Int32 → Int
  | 0 => P
  | j + 1 => pAdd (rN k p i P j) (rSt k p i j) (rCf k i j)
def rA (k : Int32) (p b : Nat) (P : Int32 → Int) : Nat → Int32 → Int
  | 0 => P
  | i + 1 => rN k p i (rA k p b P i) b
def rBc (k : Int32) (j : Nat) : Int := if k = 3 then ((2 ^ j : Nat) : Int) else -((2 ^ j : Nat) : Int)
def rB (k : Int32) (p : Nat) (P : Int32 → Int) : Nat → Int32 → Int
  | 0 => P
  | j + 1 => pAdd (rB k p P j) (bitI (p + j)) (rBc k j)
theorem rM_le {k : Int32} {p q : Nat} (hp : p ≤ 6) (hq : q ≤ 6) : rM k p q ≤ 6 := by
  unfold rM
  by_cases c : k = 1
  · rw [if_pos c]; omega
  · rw [if_neg c]
    by_cases d : k = 2
    · rw [if_pos d]; omega
    · rw [if_neg d]; omega
theorem pAdd_0 {P : Int32 → Int} {x : Int32} {v : Int} (h : v = 0) : pAdd P x v = P := by
  funext t
  unfold pAdd
  rw [h]
  by_cases q : t = x
  · rw [if_pos q, Int.add_zero]
  · rw [if_neg q, Int.add_zero]
theorem tq_v : tqA 0 = 1 ∧ tqB 0 = 1 ∧ tqA 1 = 0 ∧ tqB 1 = 0 ∧ tqA 2 = 0 ∧ tqB 2 = 1 ∧ tqA 3 = 3 ∧ tqB 3 = -1 := by decide +kernel
theorem rN_eq {k p i : Nat} {P : Int32 → Int} (hk : k = 1 ∨ k = 2) : ∀ j, rN (nI k) p i P j = nPo (tqF (nI k) p) i P j
  | 0 => rfl
  | j + 1 => by
    show pAdd (rN (nI k) p i P j) (rSt (nI k) p i j) (rCf (nI k) i j) = pAdd (nPo (tqF (nI k) p) i P j) (bitI i ||| bitI (tqF (nI k) p + j)) (-((2 ^ (i + j) : Nat) : Int))
    rw [rN_eq hk j]
    rcases hk with h | h
    · subst h
      rw [show rSt (nI 1) p i j = bitI i ||| bitI (tqF (nI 1) p + j) from rfl, show rCf (nI 1) i j = -((2 ^ (i + j) : Nat) : Int) from rfl]
    · subst h
      rw [show rSt (nI 2) p i j = bitI i ||| bitI j from rfl, show rCf (nI 2) i j = -((2 ^ (i + j) : Nat) : Int) from rfl, show tqF (nI 2) p = 0 from rfl, Nat.zero_add]
theorem or_0 (x : Int32) : x ||| 0 = x := by
  apply bI_inj
  intro i hi
  rw [bI_or, bI_zero, Bool.or_false]
theorem rA_eq {k p q : Nat} {P : Int32 → Int} (hk : k < 4) : ∀ i, rA (nI k) p (rM (nI k) p q) P i = aPo (tqA (nI k)) (tqF (nI k) p) (tqN (nI k) p q) P i
  | 0 => rfl
  | i + 1 => by
    show rN (nI k) p i (rA (nI k) p (rM (nI k) p q) P i) (rM (nI k) p q) = nPo (tqF (nI k) p) i (pAdd (aPo (tqA (nI k)) (tqF (nI k) p) (tqN (nI k) p q) P i) (bitI i) (-(tqA (nI k)) * ((2 ^ i : Nat) : Int))) (tqN (nI k) p q)
    rw [rA_eq hk i]
    have v := tq_v
    have c : k = 0 ∨ (k = 1 ∨ k = 2) ∨ k = 3 := by omega
    rcases c with h | h | h
    · subst h
      rw [show tqA (nI 0) = 1 from v.1]
      show pAdd _ (rSt (nI 0) p i 0) (rCf (nI 0) i 0) = pAdd _ (bitI i) (-1 * ((2 ^ i : Nat) : Int))
      rw [show rSt (nI 0) p i 0 = bitI i ||| 0 from rfl, or_0, show rCf (nI 0) i 0 = -((2 ^ i : Nat) : Int) from rfl, Int.neg_mul, Int.one_mul]
      rfl
    · have e : tqA (nI k) = 0 := by
        rcases h with h | h
        · subst h; exact v.2.2.1
        · subst h; exact v.2.2.2.2.1
      have e2 : rM (nI k) p q = tqN (nI k) p q := by
        rcases h with h | h
        · subst h; rfl
        · subst h; rfl
      rw [rN_eq h, e2, pAdd_0 (v := -(tqA (nI k)) * ((2 ^ i : Nat) : Int)) (by rw [e]; simp)]
    · subst h
      rw [show tqA (nI 3) = 3 from v.2.2.2.2.2.2.1]
      show pAdd _ (rSt (nI 3) p i 0) (rCf (nI 3) i 0) = pAdd _ (bitI i) (-3 * ((2 ^ i : Nat) : Int))
      rw [show rSt (nI 3) p i 0 = bitI i ||| 0 from rfl, or_0, show rCf (nI 3) i 0 = -3 * ((2 ^ i : Nat) : Int) from rfl]
      rfl
theorem rB_eq {k p : Nat} {P : Int32 → Int} (hk : k < 4) (h1 : ¬ k = 1) : ∀ j, rB (nI k) p P j = bPo (tqB (nI k)) p P j
  | 0 => rfl
  | j + 1 => by
    show pAdd (rB (nI k) p P j) (bitI (p + j)) (rBc (nI k) j) = pAdd (bPo (tqB (nI k)) p P j) (bitI (p + j)) (-(tqB (nI k)) * ((2 ^ j : Nat) : Int))
    rw [rB_eq hk h1 j]
    have v := tq_v
    have c : k = 0 ∨ k = 2 ∨ k = 3 := by omega
    rcases c with h | h | h
    · subst h
      rw [show tqB (nI 0) = 1 from v.2.1, show rBc (nI 0) j = -((2 ^ j : Nat) : Int) from rfl, Int.neg_mul, Int.one_mul]
    · subst h
      rw [show tqB (nI 2) = 1 from v.2.2.2.2.2.1, show rBc (nI 2) j = -((2 ^ j : Nat) : Int) from rfl, Int.neg_mul, Int.one_mul]
    · subst h
      rw [show tqB (nI 3) = -1 from v.2.2.2.2.2.2.2, show rBc (nI 3) j = ((2 ^ j : Nat) : Int) from rfl, Int.neg_neg, Int.one_mul]
theorem bPo_0 {p : Nat} {P : Int32 → Int} : ∀ j, bPo 0 p P j = P
  | 0 => rfl
  | j + 1 => by
    show pAdd (bPo 0 p P j) (bitI (p + j)) (-0 * ((2 ^ j : Nat) : Int)) = P
    rw [pAdd_0 (by simp), bPo_0 j]
/-- the reference's first stage -/
theorem r_PK0 {f : Nat → Int32} {o p q m : Nat} (hk : ∃ k, k < 4 ∧ f 3 = nI k) (h1 : f 3 = 1 → m = 0) (h2 : m = q ∨ f 3 = 1) : rB (f 3) p (rA (f 3) p (rM (f 3) p q) (oPo f o) p) m = PK0 f o p q := by
  obtain ⟨k, hk, e⟩ := hk
  unfold PK0
  rw [e] at h1 h2 ⊢
  rw [rA_eq hk]
  by_cases c : k = 1
  · subst c
    rw [h1 rfl, show tqB (nI 1) = 0 from tq_v.2.2.2.1, bPo_0]; rfl
  · have n1 : ¬ nI k = 1 := fun w => c (nI_inj (by omega) (by decide) w)
    rcases h2 with h2 | h2
    · rw [h2]; exact rB_eq hk c q
    · exact absurd h2 n1
/-- in place of a gate: the four terms -/
def rq4 (kk x y s : Int32) (c : Int) (P : Int32 → Int) : Int32 → Int := pAdd (pAdd (pAdd (pAdd P s (c * tc3 kk)) (s ||| x) (c * tc4 kk)) (s ||| y) (c * tc5 kk)) (s ||| x ||| y) (c * tc6 kk)
theorem rq4_v {kk x y s t : Int32} {c : Int} {P : Int32 → Int} : rq4 kk x y s c P t = P t + (if t = s then c else 0) * tc3 kk + (if t = s ||| x then c else 0) * tc4 kk + (if t = s ||| y then c else 0) * tc5 kk + (if t = s ||| x ||| y then c else 0) * tc6 kk := by
  have h : ∀ (p : Prop) [Decidable p] (v : Int), (if p then c * v else 0) = (if p then c else 0) * v := fun p _ v => by
    by_cases q : p
    · rw [if_pos q, if_pos q]
    · rw [if_neg q, if_neg q, Int.zero_mul]
  unfold rq4 pAdd
  rw [h, h, h, h]
theorem pAdd_v {P : Int32 → Int} {s t : Int32} {c v : Int} : pAdd P s (c * v) t = P t + (if t = s then c else 0) * v := by
  unfold pAdd
  by_cases q : t = s
  · rw [if_pos q, if_pos q]
  · rw [if_neg q, if_neg q, Int.zero_mul]
theorem tc_v : (tc3 0 = 1 ∧ tc4 0 = -1 ∧ tc5 0 = 0 ∧ tc6 0 = 0) ∧ (tc3 1 = 0 ∧ tc4 1 = 0 ∧ tc5 1 = 0 ∧ tc6 1 = 1) ∧ (tc3 2 = 0 ∧ tc4 2 = 1 ∧ tc5 2 = 1 ∧ tc6 2 = -1) ∧ (tc3 3 = 0 ∧ tc4 3 = 1 ∧ tc5 3 = 1 ∧ tc6 3 = -2) ∧ (tc3 4 = 1 ∧ tc4 4 = 0 ∧ tc5 4 = 0 ∧ tc6 4 = -1) ∧ (tc3 5 = 1 ∧ tc4 5 = -1 ∧ tc5 5 = -1 ∧ tc6 5 = 1) ∧ (tc3 6 = 1 ∧ tc4 6 = -1 ∧ tc5 6 = -1 ∧ tc6 6 = 2) ∧ (tc3 7 = 0 ∧ tc4 7 = 1 ∧ tc5 7 = 0 ∧ tc6 7 = -1) := by decide +kernel
theorem ite_neg {p : Prop} [Decidable p] {c : Int} : (if p then -c else 0) = -(if p then c else 0) := by
  by_cases q : p
  · rw [if_pos q, if_pos q]
  · rw [if_neg q, if_neg q]; rfl
theorem ite_mulr {p : Prop} [Decidable p] {c v : Int} : (if p then c * v else 0) = (if p then c else 0) * v := by
  by_cases q : p
  · rw [if_pos q, if_pos q]
  · rw [if_neg q, if_neg q, Int.zero_mul]
theorem rq4_0 {x y s : Int32} {c : Int} {P : Int32 → Int} (t : Int32) : pAdd (pAdd P s c) (s ||| x) (-c) t = rq4 0 x y s c P t := by
  obtain ⟨e3, e4, e5, e6⟩ := tc_v.1
  rw [rq4_v, e3, e4, e5, e6]
  unfold pAdd
  rw [ite_neg]
  generalize (if t = s then c else 0) = a
  generalize (if t = s ||| x then c else 0) = b
  omega
theorem rq4_1 {x y s : Int32} {c : Int} {P : Int32 → Int} (t : Int32) : pAdd P (s ||| x ||| y) (c * 1) t = rq4 1 x y s c P t := by
  obtain ⟨e3, e4, e5, e6⟩ := tc_v.2.1
  rw [rq4_v, e3, e4, e5, e6]
  unfold pAdd
  rw [Int.mul_one]
  omega
theorem rq4_2 {x y s : Int32} {c : Int} {P : Int32 → Int} (t : Int32) : pAdd (pAdd (pAdd P (s ||| x) c) (s ||| y) c) (s ||| x ||| y) ((-c) * 1) t = rq4 2 x y s c P t := by
  obtain ⟨e3, e4, e5, e6⟩ := tc_v.2.2.1
  rw [rq4_v, e3, e4, e5, e6]
  unfold pAdd
  rw [Int.mul_one, ite_neg]
  generalize (if t = s ||| x then c else 0) = a
  generalize (if t = s ||| y then c else 0) = b
  generalize (if t = s ||| x ||| y then c else 0) = d
  omega
theorem rq4_3 {x y s : Int32} {c : Int} {P : Int32 → Int} (t : Int32) : pAdd (pAdd (pAdd P (s ||| x) c) (s ||| y) c) (s ||| x ||| y) ((-c) * 2) t = rq4 3 x y s c P t := by
  obtain ⟨e3, e4, e5, e6⟩ := tc_v.2.2.2.1
  rw [rq4_v, e3, e4, e5, e6]
  unfold pAdd
  rw [ite_mulr, ite_neg]
  generalize (if t = s ||| x then c else 0) = a
  generalize (if t = s ||| y then c else 0) = b
  generalize (if t = s ||| x ||| y then c else 0) = d
  omega
theorem rq4_4 {x y s : Int32} {c : Int} {P : Int32 → Int} (t : Int32) : pAdd (pAdd P s c) (s ||| x ||| y) ((-c) * 1) t = rq4 4 x y s c P t := by
  obtain ⟨e3, e4, e5, e6⟩ := tc_v.2.2.2.2.1
  rw [rq4_v, e3, e4, e5, e6]
  unfold pAdd
  rw [Int.mul_one, ite_neg]
  generalize (if t = s then c else 0) = a
  generalize (if t = s ||| x ||| y then c else 0) = d
  omega
theorem rq4_5 {x y s : Int32} {c : Int} {P : Int32 → Int} (t : Int32) : pAdd (pAdd (pAdd (pAdd P s c) (s ||| x) (-c)) (s ||| y) (-c)) (s ||| x ||| y) ((-(-c)) * 1) t = rq4 5 x y s c P t := by
  obtain ⟨e3, e4, e5, e6⟩ := tc_v.2.2.2.2.2.1
  rw [rq4_v, e3, e4, e5, e6]
  unfold pAdd
  rw [Int.mul_one, Int.neg_neg, ite_neg, ite_neg]
  generalize (if t = s then c else 0) = a
  generalize (if t = s ||| x then c else 0) = b
  generalize (if t = s ||| y then c else 0) = d
  generalize (if t = s ||| x ||| y then c else 0) = e
  omega
theorem rq4_6 {x y s : Int32} {c : Int} {P : Int32 → Int} (t : Int32) : pAdd (pAdd (pAdd (pAdd P s c) (s ||| x) (-c)) (s ||| y) (-c)) (s ||| x ||| y) ((-(-c)) * 2) t = rq4 6 x y s c P t := by
  obtain ⟨e3, e4, e5, e6⟩ := tc_v.2.2.2.2.2.2.1
  rw [rq4_v, e3, e4, e5, e6]
  unfold pAdd
  rw [Int.neg_neg, ite_mulr, ite_neg, ite_neg]
  generalize (if t = s then c else 0) = a
  generalize (if t = s ||| x then c else 0) = b
  generalize (if t = s ||| y then c else 0) = d
  generalize (if t = s ||| x ||| y then c else 0) = e
  omega
theorem rq4_7 {x y s : Int32} {c : Int} {P : Int32 → Int} (t : Int32) : pAdd (pAdd P (s ||| x) c) (s ||| x ||| y) ((-c) * 1) t = rq4 7 x y s c P t := by
  obtain ⟨e3, e4, e5, e6⟩ := tc_v.2.2.2.2.2.2.2
  rw [rq4_v, e3, e4, e5, e6]
  unfold pAdd
  rw [Int.mul_one, ite_neg]
  generalize (if t = s ||| x then c else 0) = a
  generalize (if t = s ||| x ||| y then c else 0) = d
  omega
theorem rpF_4 {kk x y g : Int32} {S : Nat → Int32} {Z : Nat → Int} {j : Nat} (h : ¬ S j &&& g = 0) : rq4 kk x y (S j &&& ~~~g) (Z j) (rpF kk x y g S Z j) = rpF kk x y g S Z (j + 1) := (if_neg h).symm
theorem rpF_1 {kk x y g : Int32} {S : Nat → Int32} {Z : Nat → Int} {j : Nat} (h : S j &&& g = 0) : pAdd (rpF kk x y g S Z j) (S j) (Z j) = rpF kk x y g S Z (j + 1) := (if_pos h).symm
theorem rpF_PK64 {f S : Nat → Int32} {D : Nat → Int64} {g o p q k n : Nat} (hb : BdP (PK f g o p q k) ∧ supP (PK f g o p q k)) (r : R64 n S D (PK f g o p q k)) : rpF (f (6 + (g - 1 - k))) (gX f (g - 1 - k)) (gY f (g - 1 - k)) (gG f (g - 1 - k)) S (fun j => (D j).toInt) n = PK f g o p q (k + 1) := by
  have z : ∀ t, Int64.ofInt (PK f g o p q k t) = 0 ↔ PK f g o p q k t = 0 := fun t => of64_0 (by have := (hb.1 t).1; omega) (hb.1 t).2
  refine rpF_nxt hb.2 (fun i j hij hj e => ?_) (fun j hj => ⟨?_, ?_⟩) (fun t ht => r.2.2 t (fun q => ht ((z t).mp q)))
  · have := r.1 i j hij hj
    rw [e] at this
    exact Int32.lt_irrefl this
  · show (D j).toInt = _
    rw [(r.2.1 j hj).1]; exact of64_z (by have := (hb.1 (S j)).1; omega) (hb.1 (S j)).2
  · exact fun q => (r.2.1 j hj).2 ((r.2.1 j hj).1.trans ((z _).mpr q))
theorem ne_step {f : Nat → Int32} {x : Int32} {j i : Nat} (h : ∀ i, i < j → ¬ f i = x) (hj : ¬ f j = x) (hi : i < j + 1) : ¬ f i = x := by
  by_cases e : i = j
  · rw [e]; exact hj
  · exact h i (by omega)
theorem r01 {r : Int32} {p q : Prop} (h : (r = 1 ∧ p) ∨ (r = 0 ∧ q)) : r = 0 ∨ r = 1 := by
  rcases h with h | h
  · exact Or.inr h.1
  · exact Or.inl h.1
/-- how far the reference has come -/
def CI (f : Nat → Int32) (g o p q j : Nat) (zz : Int32) (nn gr : Nat) (S : Nat → Int32) (D : Nat → Int64) : Prop := (zz = 1 ∧ nn ≤ 40 ∧ R64 nn S D (PK f g o p q j) ∧ (∀ i, i ≤ j → ∃ n S D, n ≤ 40 ∧ R64 n S D (PK f g o p q i) ∧ n ≤ gr) ∧ ∃ i, i ≤ j ∧ ∃ S D, R64 gr S D (PK f g o p q i)) ∨ (zz = 0 ∧ ∃ i, i ≤ j ∧ ∃ n S D, 40 < n ∧ R64 n S D (PK f g o p q i))
theorem CI.start {f S : Nat → Int32} {D : Nat → Int64} {g o p q n : Nat} {r : Int32} (h : R64 n S D (PK0 f o p q)) (hr : (r = 1 ∧ n ≤ 40) ∨ (r = 0 ∧ 40 < n)) : CI f g o p q 0 r n n S D := by
  rcases hr with ⟨a, b⟩ | ⟨a, b⟩
  · exact Or.inl ⟨a, b, h, fun i hi => ⟨n, S, D, b, by rw [show i = 0 by omega]; exact h, Nat.le_refl n⟩, 0, Nat.le_refl 0, S, D, h⟩
  · exact Or.inr ⟨a, 0, Nat.le_refl 0, n, S, D, b, h⟩
theorem CI.step {f S T : Nat → Int32} {D E : Nat → Int64} {g o p q j nn gr n : Nat} {zz r : Int32} (h : CI f g o p q j zz nn gr S D) (hz : ¬ zz = 0) (h2 : R64 n T E (PK f g o p q (j + 1))) (hr : (r = 1 ∧ n ≤ 40) ∨ (r = 0 ∧ 40 < n)) : CI f g o p q (j + 1) r n (if n ≤ gr then gr else n) T E := by
  rcases h with ⟨a, b, c, d, i0, hi0, S0, D0, e0⟩ | ⟨a, _⟩
  · rcases hr with ⟨x, y⟩ | ⟨x, y⟩
    · refine Or.inl ⟨x, y, h2, fun i hi => ?_, ?_⟩
      · by_cases w : i = j + 1
        · subst w
          refine ⟨n, T, E, y, h2, ?_⟩
          by_cases v : n ≤ gr
          · rw [if_pos v]; exact v
          · rw [if_neg v]; exact Nat.le_refl n
        · obtain ⟨m, S1, D1, m40, r1, mg⟩ := d i (by omega)
          refine ⟨m, S1, D1, m40, r1, ?_⟩
          by_cases v : n ≤ gr
          · rw [if_pos v]; exact mg
          · rw [if_neg v]; omega
      · by_cases v : n ≤ gr
        · rw [if_pos v]; exact ⟨i0, by omega, S0, D0, e0⟩
        · rw [if_neg v]; exact ⟨j + 1, Nat.le_refl _, T, E, h2⟩
    · exact Or.inr ⟨x, j + 1, Nat.le_refl _, n, T, E, y, h2⟩
  · exact absurd a hz
theorem CI.fin {f S : Nat → Int32} {D : Nat → Int64} {g o p q j k nn gr : Nat} {zz : Int32} (h : CI f g o p q j zz nn gr S D) (hj : j ≤ k) (hz : j = k ∨ zz = 0) : CI f g o p q k zz nn gr S D := by
  rcases hz with hz | hz
  · rw [← hz]; exact h
  · rcases h with ⟨a, _⟩ | ⟨a, i, hi, r⟩
    · rw [hz] at a; exact absurd a (by decide)
    · exact Or.inr ⟨a, i, by omega, r⟩
theorem CI.z {f S : Nat → Int32} {D : Nat → Int64} {g o p q j nn gr : Nat} {zz : Int32} (h : CI f g o p q j zz nn gr S D) : zz = 0 ∨ zz = 1 := by
  rcases h with ⟨a, _⟩ | ⟨a, _⟩
  · exact Or.inr a
  · exact Or.inl a
theorem CI.has {f S : Nat → Int32} {D : Nat → Int64} {g o p q j nn gr : Nat} {zz : Int32} (h : CI f g o p q j zz nn gr S D) (hz : ¬ zz = 0) : nn ≤ 40 ∧ R64 nn S D (PK f g o p q j) := by
  rcases h with ⟨_, b, c, _⟩ | ⟨a, _⟩
  · exact ⟨b, c⟩
  · exact absurd a hz
theorem kind8 {x : Int32} (h : ∃ k, k < 8 ∧ x = nI k) : x = 0 ∨ x = 1 ∨ x = 2 ∨ x = 3 ∨ x = 4 ∨ x = 5 ∨ x = 6 ∨ x = 7 := by
  obtain ⟨k, hk, e⟩ := h
  have c : k = 0 ∨ k = 1 ∨ k = 2 ∨ k = 3 ∨ k = 4 ∨ k = 5 ∨ k = 6 ∨ k = 7 := by omega
  rcases c with c | c | c | c | c | c | c | c
  · exact Or.inl (by rw [e, c]; rfl)
  · exact Or.inr (Or.inl (by rw [e, c]; rfl))
  · exact Or.inr (Or.inr (Or.inl (by rw [e, c]; rfl)))
  · exact Or.inr (Or.inr (Or.inr (Or.inl (by rw [e, c]; rfl))))
  · exact Or.inr (Or.inr (Or.inr (Or.inr (Or.inl (by rw [e, c]; rfl)))))
  · exact Or.inr (Or.inr (Or.inr (Or.inr (Or.inr (Or.inl (by rw [e, c]; rfl))))))
  · exact Or.inr (Or.inr (Or.inr (Or.inr (Or.inr (Or.inr (Or.inl (by rw [e, c]; rfl)))))))
  · exact Or.inr (Or.inr (Or.inr (Or.inr (Or.inr (Or.inr (Or.inr (by rw [e, c]; rfl)))))))
