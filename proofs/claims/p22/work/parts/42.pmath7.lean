/-! ===== the calls on a circuit ===== -/
def kzM (f : Nat → Int32) (i j : Int32) : Int32 := if gateM f i = 0 then 0 else if inF j 0 7 = 0 then 0 else if thereM f = 0 then 1 else if (if f (6 + i.toNatClampNeg) = 0 then 1 else 0 : Int32) = (if j = 0 then 1 else 0 : Int32) then 1 else 0
def kindS (f : Nat → Int32) (i j : Int32) : Int32 := if kzM f i j = 0 then -2 else if thereM f = 0 then -3 else f (6 + i.toNatClampNeg)
def kindT (f : Nat → Int32) (i j : Int32) : Nat → Int32 := if kzM f i j = 0 then f else if thereM f = 0 then f else upd f (6 + i.toNatClampNeg) j
theorem kzM_g {f : Nat → Int32} {i j : Int32} (h : ¬ kzM f i j = 0) : ¬ gateM f i = 0 := fun q => h (if_pos q)
def wzM (f : Nat → Int32) (i w s : Int32) : Int32 := if gateM f i = 0 then 0 else if inF w 0 1 = 0 then 0 else if thereM f = 0 then (if inF s 0 17 = 0 then 0 else 1) else if inF s 0 (f 0 + i - 1) = 0 then 0 else if w = 0 then 1 else if f (6 + i.toNatClampNeg) = 0 then 0 else 1
def wireP (w : Int32) : Nat := if w = 0 then 18 else 30
def wireS (f : Nat → Int32) (i w s : Int32) : Int32 := if wzM f i w s = 0 then -2 else if thereM f = 0 then -3 else f (wireP w + i.toNatClampNeg)
def wireT (f : Nat → Int32) (i w s : Int32) : Nat → Int32 := if wzM f i w s = 0 then f else if thereM f = 0 then f else upd f (wireP w + i.toNatClampNeg) s
theorem wzM_g {f : Nat → Int32} {i w s : Int32} (h : ¬ wzM f i w s = 0) : ¬ gateM f i = 0 := fun q => h (if_pos q)
def um1 (f : Nat → Int32) (x : Int32) : Nat → Int32
  | 0 => 0
  | k + 1 => um1 f x k + (if f (18 + k) = x then 1 else if f (30 + k) = x then 1 else 0)
def um2 (f : Nat → Int32) (x a : Int32) : Nat → Int32
  | 0 => a
  | k + 1 => um2 f x a k + (if f (42 + k) = x then 1 else 0)
def ozM (f : Nat → Int32) (i j : Int32) : Int32 := if gateM f i = 0 then 0 else if inF j 0 3 = 0 then 0 else 1
def ofV (f : Nat → Int32) (i j : Int32) : Int32 := if 3 ≤ j then um2 f (f 0 + i) (um1 f (f 0 + i) (f 1).toNatClampNeg) (f 2).toNatClampNeg else if j = 0 then f (6 + i.toNatClampNeg) else if j = 1 then f (18 + i.toNatClampNeg) else f (30 + i.toNatClampNeg)
def ofS (f : Nat → Int32) (i j : Int32) : Int32 := if ozM f i j = 0 then -2 else if thereM f = 0 then -3 else ofV f i j
theorem ozM_g {f : Nat → Int32} {i j : Int32} (h : ¬ ozM f i j = 0) : ¬ gateM f i = 0 := fun q => h (if_pos q)
def tzM (f : Nat → Int32) (w i : Int32) : Int32 := if w = 0 then outM f i else if inF w 1 3 = 0 then 0 else if i = 0 then 1 else 0
def toldS (f : Nat → Int32) (w i : Int32) : Int32 := if tzM f w i = 0 then -2 else if thereM f = 0 then -3 else if w = 0 then f (42 + i.toNatClampNeg) else f (2 + w.toNatClampNeg)
theorem upd_back {s f : Nat → Int32} {k : Nat} (h : ∀ i, ¬ i = k → s i = f i) : upd s k (f k) = f := by
  funext i
  by_cases e : i = k
  · subst e; exact pk_us
  · rw [pk_un e]; exact h i e
theorem ixc (k j : Nat) (h : k + j < 49) : (Int32.ofNat k + nI j).toNatClampNeg = k + j := by
  have e : Int32.ofNat k + nI j = nI (k + j) := nI_add k j
  rw [e]
  exact nI_clamp (by omega)
