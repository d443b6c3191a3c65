/-! ===== bits ===== -/
def bI (x : Int32) (k : Nat) : Bool := x.toBitVec.getLsbD k
def bL (x : Int64) (k : Nat) : Bool := x.toBitVec.getLsbD k
def b01 (b : Bool) : Int32 := if b = true then 1 else 0
theorem sh_k : ∀ k, k < 32 → (nI k &&& 31).toBitVec.smod 32 = BitVec.ofNat 32 k := by decide +kernel
theorem one_bit (i : Nat) : (1#32).getLsbD i = decide (i = 0) := by
  rw [BitVec.getLsbD_one]
  simp
theorem b01_bit (c : Bool) (i : Nat) : bI (b01 c) i = (c && decide (i = 0)) := by
  cases c
  · show (0#32).getLsbD i = _
    simp
  · show (1#32).getLsbD i = _
    rw [one_bit]; simp
theorem bI_inj {x y : Int32} (h : ∀ i, i < 32 → bI x i = bI y i) : x = y := by
  apply Int32.toBitVec_inj.mp
  apply BitVec.eq_of_getLsbD_eq
  intro i hi
  exact h i hi
theorem bI_or (x y : Int32) (i : Nat) : bI (x ||| y) i = (bI x i || bI y i) := by
  unfold bI
  rw [Int32.toBitVec_or, BitVec.getLsbD_or]
theorem bI_and (x y : Int32) (i : Nat) : bI (x &&& y) i = (bI x i && bI y i) := by
  unfold bI
  rw [Int32.toBitVec_and, BitVec.getLsbD_and]
theorem bI_shr (x : Int32) {k i : Nat} (hk : k < 32) (hi : k + i < 32) : bI (x >>> (nI k &&& 31)) i = bI x (k + i) := by
  unfold bI
  rw [Int32.toBitVec_shiftRight, sh_k k hk]
  show (x.toBitVec.sshiftRight (BitVec.ofNat 32 k).toNat).getLsbD i = _
  rw [BitVec.getLsbD_sshiftRight, BitVec.toNat_ofNat, Nat.mod_eq_of_lt (by omega), if_pos hi]
  simp
  omega
theorem shr1 (x : Int32) {k : Nat} (hk : k < 32) : (x >>> (nI k &&& 31)) &&& 1 = b01 (bI x k) := by
  apply bI_inj
  intro i hi
  rw [bI_and, b01_bit]
  have e1 : bI 1 i = decide (i = 0) := one_bit i
  rw [e1]
  by_cases h : i = 0
  · subst h
    rw [bI_shr x hk (by omega)]
    rfl
  · simp [h]
theorem bI_shl (c : Bool) {k i : Nat} (hk : k < 32) (hi : i < 32) : bI (b01 c <<< (nI k &&& 31)) i = (c && decide (i = k)) := by
  unfold bI
  rw [Int32.toBitVec_shiftLeft, sh_k k hk]
  show ((b01 c).toBitVec <<< (BitVec.ofNat 32 k).toNat).getLsbD i = _
  rw [BitVec.getLsbD_shiftLeft, BitVec.toNat_ofNat, Nat.mod_eq_of_lt (by omega)]
  have e : (b01 c).toBitVec.getLsbD (i - k) = (c && decide (i - k = 0)) := b01_bit c (i - k)
  rw [e]
  by_cases h : i = k
  · subst h; simp [hi]
  · by_cases h2 : i < k
    · simp [h, h2]
    · simp [h]
      intro _ _ _
      omega
theorem b01_ne (c : Bool) : (¬ b01 c = 0) ↔ c = true := by
  cases c
  · exact ⟨fun h => absurd rfl h, fun h => by cases h⟩
  · exact ⟨fun _ => rfl, fun _ => by decide⟩
/-- what a gate gives -/
def gB (k : Int32) (a b : Bool) : Bool := if k.toInt = 0 then !a else if k.toInt = 1 then a && b else if k.toInt = 2 then a || b else if k.toInt = 3 then a ^^ b else if k.toInt = 4 then !(a && b) else if k.toInt = 5 then !(a || b) else if k.toInt = 6 then !(a ^^ b) else a && !b
def goesF (k a b : Int32) : Int32 := if k.toInt = 0 then 1 - a else if k.toInt = 1 then a &&& b else if k.toInt = 2 then a ||| b else if k.toInt = 3 then a ^^^ b else if k.toInt = 4 then 1 - (a &&& b) else if k.toInt = 5 then 1 - (a ||| b) else if k.toInt = 6 then 1 - (a ^^^ b) else a &&& (1 - b)
theorem goes_b (k : Int32) (a b : Bool) : goesF k (b01 a) (b01 b) = b01 (gB k a b) := by
  unfold goesF gB
  split
  · cases a <;> rfl
  · split
    · cases a <;> cases b <;> rfl
    · split
      · cases a <;> cases b <;> rfl
      · split
        · cases a <;> cases b <;> rfl
        · split
          · cases a <;> cases b <;> rfl
          · split
            · cases a <;> cases b <;> rfl
            · split
              · cases a <;> cases b <;> rfl
              · cases a <;> cases b <;> rfl
theorem bL_and (x y : Int64) (i : Nat) : bL (x &&& y) i = (bL x i && bL y i) := by
  unfold bL
  rw [Int64.toBitVec_and, BitVec.getLsbD_and]
theorem bL_or (x y : Int64) (i : Nat) : bL (x ||| y) i = (bL x i || bL y i) := by
  unfold bL
  rw [Int64.toBitVec_or, BitVec.getLsbD_or]
theorem bL_xor (x y : Int64) (i : Nat) : bL (x ^^^ y) i = (bL x i ^^ bL y i) := by
  unfold bL
  rw [Int64.toBitVec_xor, BitVec.getLsbD_xor]
theorem bL_m1 {i : Nat} (h : i < 64) : bL (-1) i = true := by
  have e : ∀ i, i < 64 → bL (-1) i = true := by decide +kernel
  exact e i h
theorem bL_not (x : Int64) {i : Nat} (h : i < 64) : bL (x ^^^ (-1)) i = !bL x i := by
  rw [bL_xor, bL_m1 h]
  cases bL x i <;> rfl
theorem col_b (x y : Int64) (k : Int32) {v : Nat} (hv : v < 64) : bL (columnF x y k) v = gB k (bL x v) (bL y v) := by
  unfold columnF gB
  split
  · exact bL_not x hv
  · split
    · exact bL_and x y v
    · split
      · exact bL_or x y v
      · split
        · exact bL_xor x y v
        · split
          · rw [bL_not _ hv, bL_and]
          · split
            · rw [bL_not _ hv, bL_or]
            · split
              · rw [bL_not _ hv, bL_xor]
              · rw [bL_and, bL_not _ hv]
theorem ic_b : ∀ j, j < 6 → ∀ v, v < 64 → bL (icF j) v = v.testBit j := by decide +kernel
/-! ===== all signals for inputs, on both sides ===== -/
def sgM (f : Nat → Int32) (v : Int32) : Nat → Int32
  | 0 => v
  | k + 1 => sgM f v k ||| (goesF (f (6 + k)) ((sgM f v k >>> (f (18 + k) &&& 31)) &&& 1) (if f (6 + k) = 0 then 0 else (sgM f v k >>> (f (30 + k) &&& 31)) &&& 1) <<< ((f 0 + nI k) &&& 31))
/-- every wire comes from ahead -/
def WF (f : Nat → Int32) (n g : Nat) : Prop := f 0 = nI n ∧ n ≤ 6 ∧ g ≤ 12 ∧ ∀ j, j < g → (∃ x, f (18 + j) = nI x ∧ x < n + j) ∧ (f (6 + j) = 0 ∨ ∃ y, f (30 + j) = nI y ∧ y < n + j)
theorem bI_nI {v s : Nat} (hs : s < 32) : bI (nI v) s = v.testBit s := by
  show (BitVec.ofNat 32 v).getLsbD s = _
  rw [BitVec.getLsbD_ofNat]
  simp [hs]
theorem fillI_at {f : Nat → Int64} {s : Nat} : ∀ {n : Nat}, s < n → fillI n f s = icF s
  | 0, h => absurd h (Nat.not_lt_zero s)
  | n + 1, h => by
    show vp_updL (fillI n f) n (icF n) s = icF s
    by_cases e : s = n
    · subst e; exact pk_uLs
    · rw [pk_uLn e]; exact fillI_at (by omega)
theorem row_at {h : Nat → Int64} {x : Nat} (hx : x < 18) : rowF h (nI x) = h x := by
  unfold rowF
  rw [if_neg (by rw [show (0 : Int32) = nI 0 from rfl, nI_ltI (by omega) (by decide)]; omega), if_neg (by rw [show (18 : Int32) = nI 18 from rfl, nI_leI (by decide) (by omega)]; omega), nI_clamp (by omega)]
theorem gB_0 {k : Int32} (h : k = 0) (a b c : Bool) : gB k a b = gB k a c := by
  subst h; rfl
theorem fillG_step {n j : Nat} {fK fX fY : Nat → Int32} {h : Nat → Int64} (hn : n ≤ 6) (hj : j < 12) : fillG (nI n) fK fX fY (-1) (-1) (j + 1) h = vp_updL (fillG (nI n) fK fX fY (-1) (-1) j h) (n + j) (columnF (rowF (fillG (nI n) fK fX fY (-1) (-1) j h) (fX j)) (rowF (fillG (nI n) fK fX fY (-1) (-1) j h) (fY j)) (fK j)) := by
  show (if nI n + nI j < 0 then _ else if 18 ≤ nI n + nI j then _ else _) = _
  rw [nI_add, if_neg (by rw [show (0 : Int32) = nI 0 from rfl, nI_ltI (by omega) (by decide)]; omega), if_neg (by rw [show (18 : Int32) = nI 18 from rfl, nI_leI (by decide) (by omega)]; omega), nI_clamp (by omega), if_neg (nI_nm1 (by omega)), atF_nI (by omega) (by decide), atF_nI (by omega) (by decide), atF_nI (by omega) (by decide)]
theorem cols_bits {f fK fX fY : Nat → Int32} {n g v : Nat} {h : Nat → Int64} (wf : WF f n g) (ga : GA fK fX fY f g) (hv : v < 2 ^ n) : ∀ k, k ≤ g → (∀ s, s < n + k → bI (sgM f (nI v) k) s = bL (fillG (nI n) fK fX fY (-1) (-1) k (fillI n h) s) v) ∧ ∀ s, n + k ≤ s → s < 32 → bI (sgM f (nI v) k) s = false := by
  obtain ⟨f0, hn, hg, wj⟩ := wf
  have hv64 : v < 64 := Nat.lt_of_lt_of_le hv (by
    have : (2 : Nat) ^ n ≤ 2 ^ 6 := Nat.pow_le_pow_right (by decide) hn
    exact this)
  intro k
  induction k with
  | zero =>
    intro _
    refine ⟨fun s hs => ?_, fun s h1 h2 => ?_⟩
    · show bI (nI v) s = bL (fillI n h s) v
      rw [bI_nI (by omega), fillI_at (by omega), ic_b s (by omega) v hv64]
    · show bI (nI v) s = false
      rw [bI_nI h2]
      apply Nat.testBit_lt_two_pow
      exact Nat.lt_of_lt_of_le hv (Nat.pow_le_pow_right (by decide) (by omega))
  | succ k ih =>
    intro hk
    obtain ⟨i1, i2⟩ := ih (by omega)
    obtain ⟨⟨x, hx, hxl⟩, hy⟩ := wj k (by omega)
    obtain ⟨ek, ex, ey⟩ := ga k (by omega)
    -- the new bit
    have eb : goesF (f (6 + k)) ((sgM f (nI v) k >>> (f (18 + k) &&& 31)) &&& 1) (if f (6 + k) = 0 then 0 else (sgM f (nI v) k >>> (f (30 + k) &&& 31)) &&& 1) = b01 (bL (columnF (rowF (fillG (nI n) fK fX fY (-1) (-1) k (fillI n h)) (fX k)) (rowF (fillG (nI n) fK fX fY (-1) (-1) k (fillI n h)) (fY k)) (fK k)) v) := by
      rw [col_b _ _ _ hv64, hx, shr1 _ (by omega), i1 x hxl, ek, ex, hx, row_at (by omega)]
      by_cases k0 : f (6 + k) = 0
      · rw [if_pos k0, gB_0 k0 _ _ false]
        exact goes_b _ _ false
      · rw [if_neg k0]
        obtain ⟨y, hy, hyl⟩ := hy.resolve_left k0
        rw [hy, shr1 _ (by omega), i1 y hyl, ey, hy, row_at (by omega)]
        exact goes_b _ _ _
    have es : sgM f (nI v) (k + 1) = sgM f (nI v) k ||| (b01 (bL (columnF (rowF (fillG (nI n) fK fX fY (-1) (-1) k (fillI n h)) (fX k)) (rowF (fillG (nI n) fK fX fY (-1) (-1) k (fillI n h)) (fY k)) (fK k)) v) <<< (nI (n + k) &&& 31)) := by
      show sgM f (nI v) k ||| (goesF _ _ _ <<< ((f 0 + nI k) &&& 31)) = _
      rw [eb, f0, nI_add]
    rw [es, fillG_step hn (by omega)]
    refine ⟨fun s hs => ?_, fun s h1 h2 => ?_⟩
    · rw [bI_or, bI_shl _ (by omega) (by omega)]
      by_cases e : s = n + k
      · subst e
        rw [i2 _ (Nat.le_refl _) (by omega), pk_uLs]
        simp
      · rw [pk_uLn e, i1 s (by omega)]
        simp [e]
    · rw [bI_or, bI_shl _ (by omega) h2, i2 s (by omega) h2]
      have e : ¬ s = n + k := by omega
      simp [e]
def st2 (f : Nat → Int32) (s : Int32) : Nat → Int32
  | 0 => 0
  | k + 1 => st2 f s k + (((s >>> (f (42 + k) &&& 31)) &&& 1) <<< (nI k &&& 31))
def stM (f : Nat → Int32) (v : Int32) (g o : Nat) : Int32 := st2 f (sgM f v g) o
def tkM (f : Nat → Int32) (v : Int32) : Int32 := if f 3 = 0 then tkA (f 4) v + tkB (f 4) (f 5) v else if f 3 = 1 then tkA (f 4) v * tkB (f 4) (f 5) v else if f 3 = 2 then tkA (f 4) v * tkA (f 4) v + tkB (f 4) (f 5) v else 3 * tkA (f 4) v - tkB (f 4) (f 5) v
def wqM (f : Nat → Int32) (g o : Nat) (j : Nat) : Int32 := if stM f (nI j) g o = tkM f (nI j) then 0 else 1
theorem firstW_go {q : Nat → Int32} {N j : Nat} (hj : j < N) (h : q j = 0) : firstW q (N - j) j = firstW q (N - (j + 1)) (j + 1) := by
  rw [show N - j = (N - (j + 1)) + 1 by omega]
  exact if_pos h
theorem firstW_at {q : Nat → Int32} {N j : Nat} (hj : j < N) (h : ¬ q j = 0) : firstW q (N - j) j = nI j := by
  rw [show N - j = (N - (j + 1)) + 1 by omega]
  exact if_neg h
theorem wrong_step {q : Nat → Int32} {N j : Nat} {z ac ac2 : Int32} (hj : j < N) (h : j ≤ N ∧ ac = (if z = 0 then foldF (countW1 q) j 0 else 0) ∧ (¬ z = 0 → firstW q N 0 = firstW q (N - j) j)) (hs : (q j = 0 ∧ ac2 = ac) ∨ (¬ q j = 0 ∧ z = 0 ∧ ac2 = ac + 1)) : j + 1 ≤ N ∧ ac2 = (if z = 0 then foldF (countW1 q) (j + 1) 0 else 0) ∧ (¬ z = 0 → firstW q N 0 = firstW q (N - (j + 1)) (j + 1)) := by
  obtain ⟨h1, h2, h3⟩ := h
  have ec : foldF (countW1 q) (j + 1) 0 = foldF (countW1 q) j 0 + (if q j = 0 then 0 else 1) := rfl
  rcases hs with ⟨s1, s2⟩ | ⟨s1, s2, s3⟩
  · refine ⟨hj, ?_, fun hz => (h3 hz).trans (firstW_go hj s1)⟩
    rw [s2, h2, ec, if_pos s1]
    by_cases hz : z = 0
    · rw [if_pos hz, if_pos hz]
      exact (Int32.add_zero _).symm
    · rw [if_neg hz, if_neg hz]
  · refine ⟨hj, ?_, fun hz => absurd s2 hz⟩
    rw [s3, h2, ec, if_neg s1, if_pos s2, if_pos s2]
