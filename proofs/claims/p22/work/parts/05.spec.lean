/-! ===== what the methods answer, in plain words ===== -/
theorem sw_cases (lo hi x : Int) (h : lo ≤ hi) : (x < lo ∨ hi < x) ∨ ∃ n : Nat, (n : Int) ≤ hi - lo ∧ x = lo + n := by
  rcases Int.lt_or_le x lo with q | q
  · exact Or.inl (Or.inl q)
  · rcases Int.lt_or_le hi x with r | r
    · exact Or.inl (Or.inr r)
    · exact Or.inr ⟨(x - lo).toNat, by omega, by omega⟩
theorem cl_lt (n : Int32) : n.toNatClampNeg < 2 ^ 31 := by
  have h := Int32.toInt_lt n
  show n.toInt.toNat < 2 ^ 31
  omega
theorem cl_int (n : Int32) : (n.toNatClampNeg : Int) = if n.toInt < 0 then 0 else n.toInt := by
  show ((n.toInt.toNat : Nat) : Int) = _
  split <;> omega
theorem clt {n : Int32} {j : Nat} (hj : j < 2 ^ 31) (h : ¬ n ≤ nI j) : j < n.toNatClampNeg := by
  rw [Int32.le_iff_toInt_le, nI_toInt hj] at h
  have := cl_int n
  split at this <;> omega
theorem cge {n : Int32} {j : Nat} (hj : j < 2 ^ 31) (h : n ≤ nI j) : n.toNatClampNeg ≤ j := by
  rw [Int32.le_iff_toInt_le, nI_toInt hj] at h
  have := cl_int n
  split at this <;> omega
theorem nIin {j n : Nat} (h : j < n) (hn : n < 2 ^ 31) : vp_in (nI j) n := vp_in_nI h hn
theorem nIc {j : Nat} (h : j < 2 ^ 31) : (nI j).toNatClampNeg = j := nI_clamp h
def isGateF (cT cG g : Int32) : Int32 := if g < 0 then 0 else if (if cT = 0 then 12 else cG) ≤ g then 0 else 1
def isPlaceF (cT cO i : Int32) : Int32 := if i < 0 then 0 else if (if cT = 0 then 7 else cO) ≤ i then 0 else 1
def isSignalF (cT cI cG x : Int32) : Int32 := if x < 0 then 0 else if (if cT = 0 then 18 else cI + cG) ≤ x then 0 else 1
def isAheadF (cT cI g x : Int32) : Int32 := if x < 0 then 0 else if (if cT = 0 then 18 else cI + g) ≤ x then 0 else 1
def isStageF (cT cG k : Int32) : Int32 := if k < 0 then 0 else if (if cT = 0 then 12 else cG) < k then 0 else 1
def isInputsF (cT cI v : Int32) : Int32 := if v < 0 then 0 else if ((1 : Int32) <<< ((if cT = 0 then 6 else cI) &&& 31)) ≤ v then 0 else 1
def isWayF (cT kg way : Int32) : Int32 := if way = 0 then 1 else if way = 1 then (if cT = 0 then 1 else if kg = 0 then 0 else 1) else 0
def mayPutF (cT kg k : Int32) : Int32 := if k < 0 then 0 else if k < 8 then (if cT = 0 then 1 else if (if k = 0 then 1 else 0 : Int32) = (if kg = 0 then 1 else 0 : Int32) then 1 else 0) else 0
def refusalF (cT z : Int32) : Int32 := if z = 0 then -2 else if cT = 0 then -3 else 0
def tkA (p v : Int32) : Int32 := v &&& (((1 : Int32) <<< (p &&& 31)) - 1)
def tkB (p q v : Int32) : Int32 := (v >>> (p &&& 31)) &&& (((1 : Int32) <<< (q &&& 31)) - 1)
def taskForF (cK cP cQ v : Int32) : Int32 := if cK.toInt = 0 then tkA cP v + tkB cP cQ v else if cK.toInt = 1 then tkA cP v * tkB cP cQ v else if cK.toInt = 2 then tkA cP v * tkA cP v + tkB cP cQ v else 3 * tkA cP v - tkB cP cQ v
def rowF (f : Nat → Int64) (i : Int32) : Int64 := if i < 0 then 0 else if 18 ≤ i then 0 else f i.toNatClampNeg
def columnF (x y : Int64) (k : Int32) : Int64 := if k.toInt = 0 then x ^^^ (-1) else if k.toInt = 1 then x &&& y else if k.toInt = 2 then x ||| y else if k.toInt = 3 then x ^^^ y else if k.toInt = 4 then (x &&& y) ^^^ (-1) else if k.toInt = 5 then (x ||| y) ^^^ (-1) else if k.toInt = 6 then (x ^^^ y) ^^^ (-1) else x &&& (y ^^^ (-1))
def icL : List Int64 := [-6148914691236517206, -3689348814741910324, -1085102592571150096, -71777214294589696, -281470681808896, -4294967296]
def icF (j : Nat) : Int64 := icL.getD j 0
theorem icF_val : ∀ j, j < 6 → (([.long (-6148914691236517206), .long (-3689348814741910324), .long (-1085102592571150096), .long (-71777214294589696), .long (-281470681808896), .long (-4294967296)] : List Value)).getD j .null = .long (icF j) := by
  intro j hj
  rcases (show j = 0 ∨ j = 1 ∨ j = 2 ∨ j = 3 ∨ j = 4 ∨ j = 5 by omega) with rfl | rfl | rfl | rfl | rfl | rfl <;> rfl
def fillI : Nat → (Nat → Int64) → (Nat → Int64)
  | 0, f => f
  | j + 1, f => vp_updL (fillI j f) j (icF j)
def fillG (cI : Int32) (fK fX fY : Nat → Int32) (g k : Int32) : Nat → (Nat → Int64) → (Nat → Int64)
  | 0, f => f
  | j + 1, f => if cI + nI j < 0 then fillG cI fK fX fY g k j f else if 18 ≤ cI + nI j then fillG cI fK fX fY g k j f else vp_updL (fillG cI fK fX fY g k j f) (cI + nI j).toNatClampNeg (columnF (rowF (fillG cI fK fX fY g k j f) (atF fX 12 (nI j))) (rowF (fillG cI fK fX fY g k j f) (atF fY 12 (nI j))) (if nI j = g then k else atF fK 12 (nI j)))
def colsF (cI cG : Int32) (fK fX fY : Nat → Int32) (g k : Int32) (f : Nat → Int64) : Nat → Int64 := fillG cI fK fX fY g k cG.toNatClampNeg (fillI (min cI.toNatClampNeg 6) f)
def leftF (x : Int64) (n : Int32) : Int32 := if n ≤ 0 then 0 else (x - x / n.toInt64 * n.toInt64).toInt32
theorem wide_ne0 {n : Int32} (h : ¬ n ≤ 0) : ¬ n.toInt64 = 0 := by
  intro e
  apply h
  have h2 : n.toInt64.toInt = 0 := by rw [e]; rfl
  rw [Int32.toInt_toInt64] at h2
  rw [Int32.le_iff_toInt_le, h2]
  decide
def lcgF (x : Int64) : Int64 := (x * 1103515245 + 12345) - (x * 1103515245 + 12345) / 2147483648 * 2147483648
def drawX (x : Int64) : Nat → Int64
  | 0 => x
  | j + 1 => lcgF (drawX x j)
def drawKv (x : Int64) (j : Nat) : Int32 := leftF (drawX x (j + 1) / 65536) 8
def drawXv (x : Int64) (n : Int32) (j : Nat) : Int32 := leftF (drawX x (j + 1) / 1024) (n + nI j)
def drawYv (x : Int64) (n : Int32) (j : Nat) : Int32 := if drawKv x j = 0 then -1 else leftF (drawX x (j + 1) / 32768) (n + nI j)
def putsF (v : Nat → Int32) : Nat → (Nat → Int32) → (Nat → Int32)
  | 0, f => f
  | j + 1, f => putF (putsF v j f) 12 (nI j) (v j)
def countF (nB nN nF tL cI cG cO x : Int32) : Int32 := if x.toInt = 0 then nB else if x.toInt = 1 then nN else if x.toInt = 2 then nF else if x.toInt = 3 then tL else if x.toInt = 4 then cI else if x.toInt = 5 then cG else cO
def byteAtF (tL : Int32) (f : Nat → Int32) (i : Int32) : Int32 := if i < 0 then -1 else if tL ≤ i then -1 else if 120 ≤ i then -1 else f i.toNatClampNeg
def sortM (x : Int32) : Int32 := if x < 65 then 3 else if 90 < x then 3 else 1
def sortL (x : Int32) : Int32 := if x < 97 then sortM x else if x ≤ 122 then 1 else sortM x
def sortOfF (x : Int32) : Int32 := if x = -1 then 0 else if x < 48 then sortL x else if 57 < x then sortL x else 2
def zAnd (a b : Int32) : Int32 := if a = 0 then 0 else if b = 0 then 0 else 1
def zAnd3 (a b d : Int32) : Int32 := if a = 0 then 0 else if b = 0 then 0 else if d = 0 then 0 else 1
def zOf (a x : Int32) : Int32 := if a = 0 then 0 else if x < 0 then 0 else if 3 < x then 0 else 1
def zTold (a x i : Int32) : Int32 := if x = 0 then a else if x < 1 then 0 else if 3 < x then 0 else if i = 0 then 1 else 0
def zRuns (a x : Int32) : Int32 := if a = 0 then 0 else if x = 0 then 1 else if x = 1 then 1 else 0
def zWrong (x : Int32) : Int32 := if x = 0 then 1 else if x = 1 then 1 else 0
def zTerm (a j x : Int32) : Int32 := if a = 0 then 0 else if j < 0 then 0 else if x = 0 then 1 else if x = 1 then 1 else 0
def zMost (x : Int32) : Int32 := if x < 0 then 0 else if 2 < x then 0 else 1
def zDear (a j : Int32) : Int32 := if a = 0 then 0 else if j < 0 then 0 else 1
theorem ref0_ne (z : Int32) : ¬ refusalF 0 z = 0 := by
  unfold refusalF
  split <;> simp
def wordsL : List Int32 := [110, 111, 116, 32, 97, 110, 100, 32, 111, 114, 32, 120, 111, 114, 32, 110, 97, 110, 100, 32, 110, 111, 114, 32, 120, 110, 111, 114, 32, 98, 117, 116, 32, 115, 117, 109, 32, 112, 114, 111, 100, 117, 99, 116, 32, 115, 113, 117, 97, 114, 101, 32, 116, 114, 105, 112, 108, 101, 32, 105, 110, 32, 103, 32, 111, 117, 116, 32, 116, 97, 115, 107, 32]
def wdF (k : Nat) : Nat → Int32 := fun j => if j < k then wordsL.getD j 0 else 0
theorem wdF_0 : (fun _ => (0 : Int32)) = wdF 0 := by
  funext j
  simp [wdF]
theorem wdF_s (k : Nat) (i x : Int32) (hi : i.toNatClampNeg = k) (hx : vp_nar .char x = wordsL.getD k 0) : upd (wdF k) i.toNatClampNeg (vp_nar .char x) = wdF (k + 1) := by
  funext j
  rw [hi, hx]
  by_cases h : j = k
  · subst h
    rw [pk_us]
    simp [wdF]
  · rw [pk_un h]
    simp only [wdF]
    by_cases h2 : j < k
    · rw [if_pos h2, if_pos (by omega)]
    · rw [if_neg h2, if_neg (by omega)]
