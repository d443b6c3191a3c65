/-! ===== the stages of a circuit ===== -/
def oPo (f : Nat → Int32) : Nat → Int32 → Int
  | 0 => fun _ => 0
  | j + 1 => pAdd (oPo f j) ((1 : Int32) <<< (f (42 + j) &&& 31)) ((2 ^ j : Nat) : Int)
def nPo (tf i : Nat) (P : Int32 → Int) : Nat → Int32 → Int
  | 0 => P
  | j + 1 => pAdd (nPo tf i P j) (bitI i ||| bitI (tf + j)) (-((2 ^ (i + j) : Nat) : Int))
def aPo (ta : Int) (tf tb : Nat) (P : Int32 → Int) : Nat → Int32 → Int
  | 0 => P
  | i + 1 => nPo tf i (pAdd (aPo ta tf tb P i) (bitI i) (-ta * ((2 ^ i : Nat) : Int))) tb
def bPo (tb : Int) (p : Nat) (P : Int32 → Int) : Nat → Int32 → Int
  | 0 => P
  | j + 1 => pAdd (bPo tb p P j) (bitI (p + j)) (-tb * ((2 ^ j : Nat) : Int))
def tqA (k : Int32) : Int := (atF (tbF 1) 4 k).toInt
def tqB (k : Int32) : Int := (atF (tbF 2) 4 k).toInt
def tqF (k : Int32) (p : Nat) : Nat := if k = 1 then p else 0
def tqN (k : Int32) (p q : Nat) : Nat := if k = 1 then q else if k = 2 then p else 0
def PK0 (f : Nat → Int32) (o p q : Nat) : Int32 → Int := bPo (tqB (f 3)) p (aPo (tqA (f 3)) (tqF (f 3) p) (tqN (f 3) p q) (oPo f o) p) q
def gX (f : Nat → Int32) (j : Nat) : Int32 := (1 : Int32) <<< (f (18 + j) &&& 31)
def gY (f : Nat → Int32) (j : Nat) : Int32 := if f (6 + j) = 0 then 0 else (1 : Int32) <<< (f (30 + j) &&& 31)
def gG (f : Nat → Int32) (j : Nat) : Int32 := (1 : Int32) <<< ((f 0 + nI j) &&& 31)
def PK (f : Nat → Int32) (g o p q : Nat) : Nat → Int32 → Int
  | 0 => PK0 f o p q
  | k + 1 => nxP (f (6 + (g - 1 - k))) (gX f (g - 1 - k)) (gY f (g - 1 - k)) (gG f (g - 1 - k)) (PK f g o p q k)
/-- kinds as told -/
def KD (f : Nat → Int32) (g : Nat) : Prop := (∀ j, j < g → ∃ k, k < 8 ∧ f (6 + j) = nI k) ∧ ∃ k, k < 4 ∧ f 3 = nI k
theorem Ev_pAdd {P : Int32 → Int} {x z : Int32} {v : Int} (hx : inS x) : EvP (pAdd P x v) z = EvP P z + (if x &&& ~~~z = 0 then v else 0) := by
  unfold EvP
  rw [← sumL_dl (v := v) hx, ← sumL_add]
  refine sumL_congr (fun t _ => ?_)
  unfold pAdd
  by_cases w : t &&& ~~~z = 0
  · rw [if_pos w, if_pos w, if_pos w]
  · rw [if_neg w, if_neg w, if_neg w]; rfl
def EB (P : Int32 → Int) (B : Nat) : Prop := supP P ∧ ∀ z, -(B : Int) ≤ EvP P z ∧ EvP P z ≤ (B : Int)
theorem EB_0 : EB (fun _ => 0) 0 := by
  refine ⟨fun t h => absurd rfl h, fun z => ?_⟩
  have : EvP (fun _ => 0) z = 0 := by
    unfold EvP
    rw [sumL_congr (k := fun _ => 0), sumL_zero]
    intro t _
    by_cases w : t &&& ~~~z = 0
    · rw [if_pos w]
    · rw [if_neg w]
  rw [this]
  decide
theorem EB_add {P : Int32 → Int} {x : Int32} {v : Int} {B w : Nat} (h : EB P B) (hx : inS x) (h1 : -(w : Int) ≤ v) (h2 : v ≤ (w : Int)) : EB (pAdd P x v) (B + w) := by
  refine ⟨fun t ht => ?_, fun z => ?_⟩
  · by_cases q : t = x
    · rw [q]; exact hx
    · rw [pAdd_ne q] at ht; exact h.1 t ht
  · have a := h.2 z
    rw [Ev_pAdd hx]
    by_cases c : x &&& ~~~z = 0
    · rw [if_pos c]; omega
    · rw [if_neg c]; omega
def obN : Nat → Nat
  | 0 => 0
  | j + 1 => obN j + 2 ^ j
def nbN (i : Nat) : Nat → Nat
  | 0 => 0
  | j + 1 => nbN i j + 2 ^ (i + j)
def abN (tb : Nat) : Nat → Nat
  | 0 => 0
  | i + 1 => abN tb i + 3 * 2 ^ i + nbN i tb
theorem bound_ok : ∀ o, o < 8 → ∀ tb, tb < 7 → ∀ p, p < 7 → ∀ q, q < 7 → obN o + abN tb p + obN q ≤ 8191 := by decide +kernel
theorem nn2 (j : Nat) : (0 : Int) ≤ ((2 ^ j : Nat) : Int) := Int.natCast_nonneg _
theorem EB_o {f : Nat → Int32} {n g o : Nat} (hn : n + g ≤ 18) (wo : WO f n g o) : ∀ j, j ≤ o → EB (oPo f j) (obN j)
  | 0, _ => EB_0
  | j + 1, hj => by
    obtain ⟨s, e, hs⟩ := wo j (by omega)
    have h2 := nn2 j
    refine EB_add (EB_o hn wo j (by omega)) ?_ (by omega) (by omega)
    rw [e]; exact inS_bit (by omega)
theorem EB_n {tf i : Nat} {P : Int32 → Int} {B : Nat} (hi : i < 18) (h : EB P B) : ∀ j, tf + j ≤ 18 → EB (nPo tf i P j) (B + nbN i j)
  | 0, _ => h
  | j + 1, hj => by
    have h2 := nn2 (i + j)
    have a := EB_add (x := bitI i ||| bitI (tf + j)) (v := -((2 ^ (i + j) : Nat) : Int)) (w := 2 ^ (i + j)) (EB_n (tf := tf) hi h j (by omega)) (inS_or (inS_bit hi) (inS_bit (by omega))) (by omega) (by omega)
    rw [Nat.add_assoc] at a
    exact a
theorem EB_a {ta : Int} {tf tb : Nat} {P : Int32 → Int} {B : Nat} (t0 : 0 ≤ ta) (t1 : ta ≤ 3) (ht : tf + tb ≤ 18) (h : EB P B) : ∀ i, i ≤ 6 → EB (aPo ta tf tb P i) (B + abN tb i)
  | 0, _ => h
  | i + 1, hi => by
    have h2 := nn2 i
    have l1 : -((3 * 2 ^ i : Nat) : Int) ≤ -ta * ((2 ^ i : Nat) : Int) := by
      have := Int.mul_le_mul_of_nonneg_right t1 (nn2 i)
      rw [Int.neg_mul]
      omega
    have l2 : -ta * ((2 ^ i : Nat) : Int) ≤ ((3 * 2 ^ i : Nat) : Int) := by
      have := Int.mul_nonneg t0 (nn2 i)
      rw [Int.neg_mul]
      omega
    have a := EB_add (EB_a t0 t1 ht h i (by omega)) (inS_bit (show i < 18 by omega)) l1 l2
    have b := EB_n (i := i) (by omega) a tb ht
    have e : B + abN tb (i + 1) = B + abN tb i + 3 * 2 ^ i + nbN i tb := by
      show B + (abN tb i + 3 * 2 ^ i + nbN i tb) = _
      omega
    rw [e]
    exact b
theorem EB_b {tb : Int} {p : Nat} {P : Int32 → Int} {B : Nat} (t0 : -1 ≤ tb) (t1 : tb ≤ 1) (h : EB P B) : ∀ j, p + j ≤ 18 → EB (bPo tb p P j) (B + obN j)
  | 0, _ => h
  | j + 1, hj => by
    have h2 := nn2 j
    have l : -((2 ^ j : Nat) : Int) ≤ -tb * ((2 ^ j : Nat) : Int) ∧ -tb * ((2 ^ j : Nat) : Int) ≤ ((2 ^ j : Nat) : Int) := by
      have c : tb = -1 ∨ tb = 0 ∨ tb = 1 := by omega
      rcases c with c | c | c
      · subst c; omega
      · subst c; omega
      · subst c; omega
    have a := EB_add (EB_b (p := p) t0 t1 h j (by omega)) (inS_bit (show p + j < 18 by omega)) l.1 l.2
    rw [Nat.add_assoc] at a
    exact a
theorem tk_bd : ∀ k, k < 4 → (0 ≤ tqA (nI k) ∧ tqA (nI k) ≤ 3) ∧ -1 ≤ tqB (nI k) ∧ tqB (nI k) ≤ 1 := by decide +kernel
theorem EB_P0 {f : Nat → Int32} {n g o p q : Nat} (hn : n + g ≤ 18) (ho : o ≤ 7) (hp : p ≤ 6) (hq : q ≤ 6) (wo : WO f n g o) (kd : KD f g) : EB (PK0 f o p q) 8191 := by
  obtain ⟨_, k, hk, ek⟩ := kd
  have b := tk_bd k hk
  rw [← ek] at b
  have ht : tqF (f 3) p + tqN (f 3) p q ≤ 18 ∧ tqN (f 3) p q < 7 := by
    unfold tqF tqN
    by_cases c : f 3 = 1
    · rw [if_pos c, if_pos c]; omega
    · rw [if_neg c, if_neg c]
      by_cases d : f 3 = 2
      · rw [if_pos d]; omega
      · rw [if_neg d]; omega
  have a := EB_b (p := p) b.2.1 b.2.2 (EB_a b.1.1 b.1.2 ht.1 (EB_o hn wo o (Nat.le_refl o)) p hp) q (by omega)
  have l := bound_ok o (by omega) (tqN (f 3) p q) ht.2 p (by omega) q (by omega)
  refine ⟨a.1, fun z => ?_⟩
  have := a.2 z
  show -((8191 : Nat) : Int) ≤ EvP (PK0 f o p q) z ∧ EvP (PK0 f o p q) z ≤ ((8191 : Nat) : Int)
  unfold PK0
  omega
theorem EB_nxt {k G : Nat} {x y : Int32} {P : Int32 → Int} {B : Nat} (hk : k < 8) (hG : G < 18) (hx : inS x) (hy : inS y) (h : EB P B) : EB (nxP (nI k) x y (bitI G) P) B := by
  refine ⟨sup_nxt hx hy, fun z => ?_⟩
  obtain ⟨z2, e⟩ := Ev_nxt (P := P) (z := z) hk hG hx hy
  rw [e]; exact h.2 z2
theorem EB_PK {f : Nat → Int32} {n g o p q : Nat} (wf : WF f n g) (ho : o ≤ 7) (hp : p ≤ 6) (hq : q ≤ 6) (wo : WO f n g o) (kd : KD f g) : ∀ k, k ≤ g → EB (PK f g o p q k) 8191
  | 0, _ => by
    have := wf.2.1
    have := wf.2.2.1
    exact EB_P0 (by omega) ho hp hq wo kd
  | k + 1, hk => by
    have ih := EB_PK wf ho hp hq wo kd k (by omega)
    have h6 := wf.2.1
    have h12 := wf.2.2.1
    obtain ⟨kk, hkk, ek⟩ := kd.1 (g - 1 - k) (by omega)
    obtain ⟨⟨x, ex, hx⟩, hy⟩ := wf.2.2.2 (g - 1 - k) (by omega)
    have iy : inS (gY f (g - 1 - k)) := by
      unfold gY
      by_cases c : f (6 + (g - 1 - k)) = 0
      · rw [if_pos c]; exact inS_0
      · rw [if_neg c]
        rcases hy with hy | ⟨y, ey, hy⟩
        · exact absurd hy c
        · rw [ey]; exact inS_bit (by omega)
    have ix : inS (gX f (g - 1 - k)) := by
      unfold gX
      rw [ex]; exact inS_bit (by omega)
    have eg : gG f (g - 1 - k) = bitI (n + (g - 1 - k)) := by
      unfold gG bitI
      rw [wf.1, nI_add]
    show EB (nxP (f (6 + (g - 1 - k))) (gX f (g - 1 - k)) (gY f (g - 1 - k)) (gG f (g - 1 - k)) (PK f g o p q k)) 8191
    rw [ek, eg]
    exact EB_nxt hkk (by omega) ix iy ih
theorem PK_Bd {f : Nat → Int32} {n g o p q k : Nat} (wf : WF f n g) (ho : o ≤ 7) (hp : p ≤ 6) (hq : q ≤ 6) (wo : WO f n g o) (kd : KD f g) (hk : k ≤ g) : BdP (PK f g o p q k) ∧ supP (PK f g o p q k) := by
  have h := EB_PK wf ho hp hq wo kd k hk
  exact ⟨Ev_Bd h.1 h.2, h.1⟩
