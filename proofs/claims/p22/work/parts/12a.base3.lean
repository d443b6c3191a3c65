section Base3
variable {p : Program} {l : Launch} {e : Env} {R : Room} {s : State} {m : MethodId} {args : Array Value} {below : List Frame} {meth : Method} {c : Code} {H : Heap} {locs : List Loc} {cells slots : Nat} {Q : State → Prop}
variable {G : GT} {A : Nat → Prop} {ws : va_W} {cc : ByteArray} {nL pc : Nat} {ls : Array Slot} {rest : List Value} {Ts : List Cond} {own : String}
/-- System.arraycopy of a row of ints onto itself -/
theorem w_copy (S : CallFix p m c cc nL s args Ts own) (C : Cx G A s) (w : Wd G A s ws H locs) (hml : c.maxLocals = ls.size) {index : Nat} (hlink : Cond.methodLink own index arraycopyName ∈ Ts) (hnat : Cond.native arraycopyName ∈ Ts) (hstat : Cond.static arraycopyName ∈ Ts) (hini : Cond.initialized "java/lang/System" ∈ Ts) (q0 : Nat) {a n0 : Nat} {f : Nat → Int32} (ha : ws[q0]? = some (a, .inl (G.2.1 2, n0, .inl f))) {sp dp n : Int32} (h1 : ¬ sp < 0) (h2 : ¬ dp < 0) (h3 : ¬ n < 0) (h4 : sp.toNatClampNeg + n.toNatClampNeg ≤ n0) (h5 : dp.toNatClampNeg + n.toNatClampNeg ≤ n0) (hframes : 1 ≤ R.frames) (hlocals : (rest.map fun v => v.category).sum + (nativeFrameWords "java/lang/System" "arraycopy" 5 + 11) ≤ R.locals) {ws2 : va_W} (hs2 : ws.set q0 (a, .inl (G.2.1 2, n0, .inl (va_cpy f f sp.toNatClampNeg dp.toNatClampNeg n.toNatClampNeg))) = ws2) (hdg : decode cc pc = .ok (.invokestatic index, 3))
    (kk : ∀ (H1 : Heap) (locs1 : List Loc), Wd G A s ws2 H1 locs1 → W p l e R s m args below meth c H1 locs1 cells slots Q (F0 m (pc + 3) ls rest)) : W p l e R s m args below meth c H locs cells slots Q (F0 m pc ls (.int n :: .int dp :: .ref a :: .int sp :: .ref a :: rest)) :=
  va_copyi S.1 S.2.1 hml S.2.2.2.1 (S.2.2.2.2 _ hlink) (S.2.2.2.2 _ hnat) (S.2.2.2.2 _ hstat) (S.2.2.2.2 _ hini) C.1 w.1 w.2.1 w.2.2 q0 q0 2 2 ha ha rfl rfl rfl h1 h2 h3 h4 h5 (fun _ _ => rfl) hframes hlocals hdg (fun H1 locs1 hP hD hS => by subst hs2; exact kk H1 locs1 ⟨hP, hD, hS⟩)
end Base3
def foldF (f : Nat → Int32 → Int32) : Nat → Int32 → Int32
  | 0, a => a
  | j + 1, a => f j (foldF f j a)
def usesF1 (fX fY : Nat → Int32) (x : Int32) (j : Nat) (a : Int32) : Int32 := a + (if atF fX 12 (nI j) = x then 1 else if atF fY 12 (nI j) = x then 1 else 0)
def usesF2 (fZ : Nat → Int32) (x : Int32) (j : Nat) (a : Int32) : Int32 := a + (if atF fZ 7 (nI j) = x then 1 else 0)
def usesF (cG cO : Int32) (fX fY fZ : Nat → Int32) (x : Int32) : Int32 := foldF (usesF2 fZ x) cO.toNatClampNeg (foldF (usesF1 fX fY x) cG.toNatClampNeg 0)
def bitF (g : Nat → Int64) (x v : Int32) : Int32 := (((rowF g x).toUInt64 >>> (v.toInt64.toUInt64 &&& Int64.toUInt64 63)).toInt64 &&& 1).toInt32
def outF1 (g : Nat → Int64) (fZ : Nat → Int32) (v : Int32) (j : Nat) (a : Int32) : Int32 := a + (bitF g (atF fZ 7 (nI j)) v <<< (nI j &&& 31))
def outForF (g : Nat → Int64) (cO : Int32) (fZ : Nat → Int32) (v : Int32) : Int32 := foldF (outF1 g fZ v) cO.toNatClampNeg 0
def trueF1 (g : Nat → Int64) (v : Int32) (j : Nat) (a : Int32) : Int32 := a ||| (bitF g (nI j) v <<< (nI j &&& 31))
def trueF (g : Nat → Int64) (n v : Int32) : Int32 := foldF (trueF1 g v) n.toNatClampNeg 0
def isWrongF (g : Nat → Int64) (cO cK cP cQ : Int32) (fZ : Nat → Int32) (v : Int32) : Int32 := if outForF g cO fZ v = taskForF cK cP cQ v then 0 else 1
def firstW (q : Nat → Int32) : Nat → Nat → Int32
  | 0, _ => -1
  | k + 1, j => if q j = 0 then firstW q k (j + 1) else nI j
def countW1 (q : Nat → Int32) (j : Nat) (a : Int32) : Int32 := a + (if q j = 0 then 0 else 1)
def allN (cI : Int32) : Nat := ((1 : Int32) <<< (cI &&& 31)).toNatClampNeg
theorem allN_lt (cI : Int32) : allN cI < 2 ^ 31 := cl_lt _
def puts7 (v : Nat → Int32) : Nat → (Nat → Int32) → (Nat → Int32)
  | 0, f => f
  | j + 1, f => putF (puts7 v j f) 7 (nI j) (v j)
def setOfF (x : Int32) : Int32 := if x < 0 then 0 else if 18 ≤ x then 0 else 1 <<< (x &&& 31)
def tbL (k : Nat) : List Int32 := match k with
  | 1 => [1, 0, 0, 3]
  | 2 => [1, 0, 1, -1]
  | 3 => [1, 0, 0, 0, 1, 1, 1, 0]
  | 4 => [-1, 0, 1, 1, 0, -1, -1, 1]
  | 5 => [0, 0, 1, 1, 0, -1, -1, 0]
  | _ => [0, 1, -1, -2, -1, 1, 2, -1]
def tbF (k : Nat) (j : Nat) : Int32 := (tbL k).getD j 0
theorem lt_clamp {x : Int32} {n : Nat} (hn : n < 2 ^ 31) (h0 : ¬ x < 0) (h1 : ¬ Int32.ofNat n ≤ x) : x.toNatClampNeg < n := by
  obtain ⟨j, hj, rfl⟩ := vp_in_of (in_of2 hn h0 h1) hn
  rw [nI_clamp (by omega)]
  exact hj
theorem tb4 (vs : List Value) (l : List Int32) (h : vs = l.map Value.int) : ∀ j, j < vs.length → vs.getD j .null = .int (l.getD j 0) := by
  subst h
  intro j hj
  rw [List.length_map] at hj
  rw [List.getD_eq_getElem?_getD, List.getD_eq_getElem?_getD, List.getElem?_map, List.getElem?_eq_getElem hj]
  rfl
def sizeOfF (sN : Int32) (f : Nat → Int32) (k : Int32) : Int32 := if k < 0 then 0 else if sN ≤ k then 0 else atF f 13 k
def st40 (f : Nat → Int32) (k j : Int32) : Int32 := atF f 520 (k * 40 + j)
def bitCntF (i : Int32) : Int32 :=
  let us : Int32 → Int32 → Int32 := fun x y => (x.toUInt32 >>> (y.toUInt32 &&& Int32.toUInt32 31)).toInt32
  let a := i - (us i 1 &&& 1431655765)
  let b := (a &&& 858993459) + (us a 2 &&& 858993459)
  let d := (b + us b 4) &&& 252645135
  let e := d + us d 8
  let f := e + us e 16
  f &&& 63
def plF (f : Nat → Int32) (x : Int32) : Nat → Int32 → Int32 → Int32
  | 0, lo, _ => lo
  | k + 1, lo, hi => if hi ≤ lo then lo else if atF f 160 (((lo + hi).toUInt32 >>> ((1 : Int32).toUInt32 &&& Int32.toUInt32 31)).toInt32) ≤ x then plF f x k lo (((lo + hi).toUInt32 >>> ((1 : Int32).toUInt32 &&& Int32.toUInt32 31)).toInt32) else plF f x k ((((lo + hi).toUInt32 >>> ((1 : Int32).toUInt32 &&& Int32.toUInt32 31)).toInt32) + 1) hi
theorem ins_ok {x n : Int32} (h1 : ¬ x < 0) (h2 : ¬ n < x) (h3 : n < 160) : ∃ i k : Nat, x = nI i ∧ n = nI k ∧ i ≤ k ∧ k < 160 := by
  obtain ⟨i, hi, rfl⟩ := nI_of h1
  have h0 : ¬ n < 0 := by
    have a := Int32.not_lt.mp h2
    rw [Int32.le_iff_toInt_le, nI_toInt hi] at a
    rw [Int32.lt_iff_toInt_lt]
    have e0 : (0 : Int32).toInt = 0 := by decide
    omega
  obtain ⟨k, hk, rfl⟩ := nI_of h0
  have a := Int32.not_lt.mp h2
  rw [nI_leI hi hk] at a
  have b : k < 160 := (nI_ltI hk (b := 160) (by decide)).mp h3
  exact ⟨i, k, rfl, rfl, a, b⟩
theorem rem_ok {x n : Int32} (h1 : ¬ x < 0) (h2 : ¬ n ≤ x) (h3 : n ≤ 160) : ∃ i k : Nat, x = nI i ∧ n = nI k ∧ i < k ∧ k ≤ 160 := by
  obtain ⟨i, hi, rfl⟩ := nI_of h1
  have h0 : ¬ n < 0 := by
    have a := Int32.not_le.mp h2
    rw [Int32.lt_iff_toInt_lt, nI_toInt hi] at a
    rw [Int32.lt_iff_toInt_lt]
    have e0 : (0 : Int32).toInt = 0 := by decide
    omega
  obtain ⟨k, hk, rfl⟩ := nI_of h0
  have a := Int32.not_le.mp h2
  rw [nI_ltI hi hk] at a
  have b : k ≤ 160 := (nI_leI hk (b := 160) (by decide)).mp h3
  exact ⟨i, k, rfl, rfl, a, b⟩
theorem stage_mu {t : Int32} (h : ¬ 13 ≤ t) : (13 - (t + 1).toInt).toNat < (13 - t.toInt).toNat := by
  have e13 : (13 : Int32).toInt = 13 := by decide
  have e1 : (1 : Int32).toInt = 1 := by decide
  have a := Int32.not_le.mp h
  rw [Int32.lt_iff_toInt_lt, e13] at a
  have l1 := Int32.le_toInt t
  have e : (t + 1).toInt = t.toInt + 1 := by
    rw [Int32.toInt_add, e1]
    exact Int.bmod_eq_of_le (by omega) (by omega)
  omega
