theorem and_nI (a b : Nat) : nI a &&& nI b = nI (a &&& b) := by
  apply bI_inj
  intro i hi
  rw [bI_and, bI_nI hi, bI_nI hi, bI_nI hi, Nat.testBit_and]
def uS (x y : Int32) : Int32 := (x.toUInt32 >>> (y.toUInt32 &&& Int32.toUInt32 31)).toInt32
def iA (i : Int32) : Int32 := i - (uS i 1 &&& 1431655765)
def iB (a : Int32) : Int32 := (a &&& 858993459) + (uS a 2 &&& 858993459)
def iD (b : Int32) : Int32 := (b + uS b 4) &&& 252645135
def iE (d : Int32) : Int32 := d + uS d 8
def iF (e : Int32) : Int32 := (e + uS e 16) &&& 63
theorem bc_i (i : Int32) : bitCntF i = iF (iE (iD (iB (iA i)))) := rfl
theorem us_1 {n : Nat} (hn : n < 2 ^ 32) : uS (nI n) 1 = nI (n / 2) := pk_ushrN hn 1 1 (by decide)
theorem us_2 {n : Nat} (hn : n < 2 ^ 32) : uS (nI n) 2 = nI (n / 4) := pk_ushrN hn 2 2 (by decide)
theorem us_4 {n : Nat} (hn : n < 2 ^ 32) : uS (nI n) 4 = nI (n / 16) := pk_ushrN hn 4 4 (by decide)
theorem us_8 {n : Nat} (hn : n < 2 ^ 32) : uS (nI n) 8 = nI (n / 256) := pk_ushrN hn 8 8 (by decide)
theorem us_16 {n : Nat} (hn : n < 2 ^ 32) : uS (nI n) 16 = nI (n / 65536) := pk_ushrN hn 16 16 (by decide)
theorem iA_n {m : Nat} (hm : m < 262144) : iA (nI m) = nI (pcA m) ∧ pcA m < 262144 := by
  have la : (m / 2) &&& 1431655765 ≤ m / 2 := Nat.and_le_left
  refine ⟨?_, ?_⟩
  · unfold iA
    rw [us_1 (by omega), show (1431655765 : Int32) = nI 1431655765 from rfl, and_nI, pk_sub (by omega)]; rfl
  · show m - ((m / 2) &&& 1431655765) < 262144
    omega
theorem iB_n {a : Nat} (ha : a < 262144) : iB (nI a) = nI (pcB a) ∧ pcB a < 524288 := by
  have l1 : a &&& 858993459 ≤ a := Nat.and_le_left
  have l2 : (a / 4) &&& 858993459 ≤ a / 4 := Nat.and_le_left
  refine ⟨?_, ?_⟩
  · unfold iB
    rw [us_2 (by omega), show (858993459 : Int32) = nI 858993459 from rfl, and_nI, and_nI, nI_add]; rfl
  · show (a &&& 858993459) + ((a / 4) &&& 858993459) < 524288
    omega
theorem iD_n {b : Nat} (hb : b < 524288) : iD (nI b) = nI (pcD b) ∧ pcD b < 1048576 := by
  have ld : (b + b / 16) &&& 252645135 ≤ b + b / 16 := Nat.and_le_left
  refine ⟨?_, ?_⟩
  · unfold iD
    rw [us_4 (by omega), nI_add, show (252645135 : Int32) = nI 252645135 from rfl, and_nI]; rfl
  · show (b + b / 16) &&& 252645135 < 1048576
    omega
theorem iE_n {d : Nat} (hd : d < 1048576) : iE (nI d) = nI (pcE d) ∧ pcE d < 2097152 := by
  refine ⟨?_, ?_⟩
  · unfold iE
    rw [us_8 (by omega), nI_add]; rfl
  · show d + d / 256 < 2097152
    omega
theorem iF_n {e : Nat} (he : e < 2097152) : iF (nI e) = nI (pcF e) := by
  unfold iF
  rw [us_16 (by omega), nI_add, show (63 : Int32) = nI 63 from rfl, and_nI]; rfl
theorem bc_pc {m : Nat} (hm : m < 262144) : bitCntF (nI m) = nI (pcN m) := by
  show bitCntF (nI m) = nI (pcF (pcE (pcD (pcB (pcA m)))))
  have a := iA_n hm
  have b := iB_n a.2
  have d := iD_n b.2
  have e := iE_n d.2
  rw [bc_i, a.1, b.1, d.1, e.1, iF_n e.2]
