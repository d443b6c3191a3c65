theorem sh_l : ∀ v, v < 64 → ((nI v).toInt64.toUInt64 &&& Int64.toUInt64 63).toBitVec % 64 = BitVec.ofNat 64 v := by decide +kernel
theorem bit_b (x : Int64) {v : Nat} (hv : v < 64) : ((x.toUInt64 >>> ((nI v).toInt64.toUInt64 &&& Int64.toUInt64 63)).toInt64 &&& 1).toInt32 = b01 (bL x v) := by
  apply bI_inj
  intro i hi
  rw [b01_bit]
  show ((x.toUInt64 >>> ((nI v).toInt64.toUInt64 &&& Int64.toUInt64 63)).toInt64 &&& 1).toInt32.toBitVec.getLsbD i = _
  rw [Int64.toBitVec_toInt32, BitVec.getLsbD_signExtend]
  have e : ∀ j, ((x.toUInt64 >>> ((nI v).toInt64.toUInt64 &&& Int64.toUInt64 63)).toInt64 &&& 1).toBitVec.getLsbD j = (bL x (v + j) && decide (j = 0)) := by
    intro j
    rw [Int64.toBitVec_and, BitVec.getLsbD_and]
    have e1 : (1 : Int64).toBitVec.getLsbD j = decide (j = 0) := by
      show (1#64).getLsbD j = _
      rw [BitVec.getLsbD_one]
      simp
    rw [e1]
    congr 1
    show (x.toUInt64 >>> ((nI v).toInt64.toUInt64 &&& Int64.toUInt64 63)).toBitVec.getLsbD j = _
    rw [UInt64.toBitVec_shiftRight, sh_l v hv]
    show (x.toBitVec >>> (BitVec.ofNat 64 v).toNat).getLsbD j = _
    rw [BitVec.getLsbD_ushiftRight, BitVec.toNat_ofNat, Nat.mod_eq_of_lt (by omega)]
    rfl
  rw [if_pos (by omega), e]
  by_cases h : i = 0
  · subst h; simp
  · simp [h]
theorem bitF_b {g : Nat → Int64} {s v : Nat} (hs : s < 18) (hv : v < 64) : bitF g (nI s) (nI v) = b01 (bL (g s) v) := by
  unfold bitF
  rw [row_at hs]
  exact bit_b _ hv
/-- the outputs, on both sides -/
theorem out_eq {f fK fX fY fZ : Nat → Int32} {n g o v : Nat} {h : Nat → Int64} (wf : WF f n g) (ga : GA fK fX fY f g) (go : GO fZ f o) (ho : o ≤ 7) (wo : ∀ j, j < o → ∃ s, f (42 + j) = nI s ∧ s < n + g) (hv : v < 2 ^ n) : foldF (outF1 (fillG (nI n) fK fX fY (-1) (-1) g (fillI n h)) fZ (nI v)) o 0 = stM f (nI v) g o := by
  have hb := (cols_bits (h := h) wf ga hv g (Nat.le_refl _)).1
  obtain ⟨f0, hn, hg, wj⟩ := wf
  have hv64 : v < 64 := Nat.lt_of_lt_of_le hv (by
    have : (2 : Nat) ^ n ≤ 2 ^ 6 := Nat.pow_le_pow_right (by decide) hn
    exact this)
  have key : ∀ k, k ≤ o → foldF (outF1 (fillG (nI n) fK fX fY (-1) (-1) g (fillI n h)) fZ (nI v)) k 0 = st2 f (sgM f (nI v) g) k := by
    intro k
    induction k with
    | zero => intro _; rfl
    | succ k ih =>
      intro hk
      obtain ⟨s, hs, hsl⟩ := wo k (by omega)
      show outF1 _ fZ (nI v) k (foldF _ k 0) = st2 f _ k + _
      rw [ih (by omega)]
      unfold outF1
      rw [atF_nI (by omega) (by decide), go k (by omega), hs, bitF_b (by omega) hv64, shr1 _ (by omega), hb s hsl]
  exact key o (Nat.le_refl _)
theorem toInt_lit {x : Int32} {m : Nat} (hm : m < 2 ^ 31) : (x.toInt = (m : Int)) = (x = nI m) := by
  apply propext
  constructor
  · intro h
    apply Int32.toInt_inj.mp
    rw [h, nI_toInt hm]
  · intro h
    rw [h, nI_toInt hm]
theorem tk_eq {cK cP cQ v : Int32} {f : Nat → Int32} (h3 : cK = f 3) (h4 : cP = f 4) (h5 : cQ = f 5) : taskForF cK cP cQ v = tkM f v := by
  unfold taskForF tkM
  rw [h3, h4, h5]
  have e0 : ((f 3).toInt = 0) = (f 3 = 0) := toInt_lit (m := 0) (by decide)
  have e1 : ((f 3).toInt = 1) = (f 3 = 1) := toInt_lit (m := 1) (by decide)
  have e2 : ((f 3).toInt = 2) = (f 3 = 2) := toInt_lit (m := 2) (by decide)
  by_cases c0 : f 3 = 0
  · rw [if_pos c0, if_pos (e0 ▸ c0)]
  · rw [if_neg c0, if_neg (e0 ▸ c0)]
    by_cases c1 : f 3 = 1
    · rw [if_pos c1, if_pos (e1 ▸ c1)]
    · rw [if_neg c1, if_neg (e1 ▸ c1)]
      by_cases c2 : f 3 = 2
      · rw [if_pos c2, if_pos (e2 ▸ c2)]
      · rw [if_neg c2, if_neg (e2 ▸ c2)]
theorem firstW_congr {q p : Nat → Int32} : ∀ (N j : Nat), (∀ i, j ≤ i → i < j + N → q i = p i) → firstW q N j = firstW p N j
  | 0, _, _ => rfl
  | N + 1, j, h => by
    show (if q j = 0 then firstW q N (j + 1) else nI j) = if p j = 0 then firstW p N (j + 1) else nI j
    rw [h j (Nat.le_refl _) (by omega), firstW_congr N (j + 1) (fun i h1 h2 => h i (by omega) (by omega))]
theorem countW_congr {q p : Nat → Int32} : ∀ (N : Nat), (∀ i, i < N → q i = p i) → foldF (countW1 q) N 0 = foldF (countW1 p) N 0
  | 0, _ => rfl
  | N + 1, h => by
    show countW1 q N (foldF (countW1 q) N 0) = countW1 p N (foldF (countW1 p) N 0)
    rw [countW_congr N (fun i hi => h i (by omega))]
    unfold countW1
    rw [h N (by omega)]
theorem allN_n : ∀ n, n ≤ 6 → allN (nI n) = 2 ^ n := by
  intro n hn
  have e : ∀ n, n < 7 → allN (nI n) = 2 ^ n := by decide +kernel
  exact e n (by omega)
/-- one input, on both sides -/
theorem wq_eq {f fK fX fY fZ : Nat → Int32} {cK cP cQ : Int32} {n g o v : Nat} {h : Nat → Int64} (wf : WF f n g) (ga : GA fK fX fY f g) (go : GO fZ f o) (ho : o ≤ 7) (wo : ∀ j, j < o → ∃ s, f (42 + j) = nI s ∧ s < n + g) (h3 : cK = f 3) (h4 : cP = f 4) (h5 : cQ = f 5) (hv : v < 2 ^ n) : isWrongF (fillG (nI n) fK fX fY (-1) (-1) g (fillI n h)) (nI o) cK cP cQ fZ (nI v) = wqM f g o v := by
  unfold isWrongF wqM outForF
  rw [nI_clamp (by omega), out_eq wf ga go ho wo hv, tk_eq h3 h4 h5]
def rzM (f : Nat → Int32) (v w : Int32) : Int32 := if inpM f v = 0 then 0 else if inF w 0 1 = 0 then 0 else 1
def runsS (f : Nat → Int32) (v w : Int32) : Int32 := if rzM f v w = 0 then -2 else if thereM f = 0 then -3 else if w = 0 then stM f v (f 1).toNatClampNeg (f 2).toNatClampNeg else tkM f v
def szM (f : Nat → Int32) (s v : Int32) : Int32 := if inF s 0 (if thereM f = 0 then 17 else f 0 + f 1 - 1) = 0 then 0 else if inpM f v = 0 then 0 else 1
def sigS (f : Nat → Int32) (s v : Int32) : Int32 := if szM f s v = 0 then -2 else if thereM f = 0 then -3 else (sgM f v (f 1).toNatClampNeg >>> (s &&& 31)) &&& 1
def wrongS (f : Nat → Int32) (w : Int32) : Int32 := if inF w 0 1 = 0 then -2 else if thereM f = 0 then -3 else if w = 0 then firstW (wqM f (f 1).toNatClampNeg (f 2).toNatClampNeg) (allN (f 0)) 0 else foldF (countW1 (wqM f (f 1).toNatClampNeg (f 2).toNatClampNeg)) (allN (f 0)) 0
