theorem nw_0 {U : State} (h : NW U) : va_Nw (.methodLinkNest RX6 11 yX3_init "GateSums") U := h 0 (RX6, 11, yX3_init, "GateSums") rfl
theorem nw_1 {U : State} (h : NW U) : va_Nw (.methodLinkNest RX3 11 yX5_init "GateSums") U := h 1 (RX3, 11, yX5_init, "GateSums") rfl
theorem nw_2 {U : State} (h : NW U) : va_Nw (.methodLinkNest RX6 18 yX0_init "GateSums") U := h 2 (RX6, 18, yX0_init, "GateSums") rfl
theorem nw_3 {U : State} (h : NW U) : va_Nw (.methodLinkNest RX6 28 yX1_init "GateSums") U := h 3 (RX6, 28, yX1_init, "GateSums") rfl
theorem nw_4 {U : State} (h : NW U) : va_Nw (.methodLinkNest RX6 38 yX4_init "GateSums") U := h 4 (RX6, 38, yX4_init, "GateSums") rfl
theorem nw_5 {U : State} (h : NW U) : va_Nw (.methodLinkNest RX4 23 yX2_init "GateSums") U := h 5 (RX4, 23, yX2_init, "GateSums") rfl
theorem nw_6 {U : State} (h : NW U) : va_Nw (.methodLinkNest RX0 38 yX6_put "GateSums") U := h 6 (RX0, 38, yX6_put, "GateSums") rfl
theorem nw_7 {U : State} (h : NW U) : va_Nw (.methodLinkNest RX0 83 yX6_at "GateSums") U := h 7 (RX0, 83, yX6_at, "GateSums") rfl
theorem nw_8 {U : State} (h : NW U) : va_Nw (.methodLinkNest RX4 76 yX6_setOf "GateSums") U := h 8 (RX4, 76, yX6_setOf, "GateSums") rfl
theorem nw_9 {U : State} (h : NW U) : va_Nw (.methodLinkNest RX2 26 yX6_at "GateSums") U := h 9 (RX2, 26, yX6_at, "GateSums") rfl
theorem nw_10 {U : State} (h : NW U) : va_Nw (.methodLinkNest RX2 38 yX6_put "GateSums") U := h 10 (RX2, 38, yX6_put, "GateSums") rfl
theorem nw_11 {U : State} (h : NW U) : va_Nw (.methodLinkNest RX4 64 yX6_at "GateSums") U := h 11 (RX4, 64, yX6_at, "GateSums") rfl
theorem nw_12 {U : State} (h : NW U) : va_Nw (.methodLinkNest RX4 59 yX6_put "GateSums") U := h 12 (RX4, 59, yX6_put, "GateSums") rfl
section Base2
variable {p : Program} {l : Launch} {e : Env} {R : Room} {s : State} {m : MethodId} {args : Array Value} {below : List Frame} {meth : Method} {c : Code} {H : Heap} {locs : List Loc} {cells slots : Nat} {Q : State → Prop}
variable {G : GT} {A : Nat → Prop} {ws : va_W} {cc : ByteArray} {nL pc pc2 : Nat} {ls : Array Slot} {rest rest2 : List Value}
theorem w_topi {x y : Int32} (h : x = y) (k : W p l e R s m args below meth c H locs cells slots Q (F0 m pc ls (.int y :: rest))) : W p l e R s m args below meth c H locs cells slots Q (F0 m pc ls (.int x :: rest)) := h ▸ k
theorem w_topl {x y : Int64} (h : x = y) (k : W p l e R s m args below meth c H locs cells slots Q (F0 m pc ls (.long y :: rest))) : W p l e R s m args below meth c H locs cells slots Q (F0 m pc ls (.long x :: rest)) := h ▸ k
/-- two ways that meet with a number on the stack -/
theorem w_joini (pc2 : Nat) (rest2 : List Value) (P : Int32 → Prop) {st : List Value} (J : ∀ z : Int32, P z → W p l e R s m args below meth c H locs cells slots Q (F0 m pc2 ls (.int z :: rest2))) (k : (∀ z : Int32, P z → W p l e R s m args below meth c H locs cells slots Q (F0 m pc2 ls (.int z :: rest2))) → W p l e R s m args below meth c H locs cells slots Q (F0 m pc ls st)) : W p l e R s m args below meth c H locs cells slots Q (F0 m pc ls st) := k J
theorem w_joinl (pc2 : Nat) (rest2 : List Value) (P : Int64 → Prop) {st : List Value} (J : ∀ z : Int64, P z → W p l e R s m args below meth c H locs cells slots Q (F0 m pc2 ls (.long z :: rest2))) (k : (∀ z : Int64, P z → W p l e R s m args below meth c H locs cells slots Q (F0 m pc2 ls (.long z :: rest2))) → W p l e R s m args below meth c H locs cells slots Q (F0 m pc ls st)) : W p l e R s m args below meth c H locs cells slots Q (F0 m pc ls st) := k J
/-- ways that meet with the same stack -/
theorem w_join0 (pc2 : Nat) (rest2 : List Value) (P : Prop) {st : List Value} (J : P → W p l e R s m args below meth c H locs cells slots Q (F0 m pc2 ls rest2)) (k : (P → W p l e R s m args below meth c H locs cells slots Q (F0 m pc2 ls rest2)) → W p l e R s m args below meth c H locs cells slots Q (F0 m pc ls st)) : W p l e R s m args below meth c H locs cells slots Q (F0 m pc ls st) := k J
/-- ways that meet with other cells and locals -/
theorem w_joinW {σ : Type} (pc2 : Nat) (P : σ → Prop) (ws1 : σ → va_W) (lv1 : σ → List (Nat × Value)) (st1 : σ → List Value) {st : List Value} (J : ∀ (x : σ) (ls1 : Array Slot) (H1 : Heap) (locs1 : List Loc), P x → Wd G A s (ws1 x) H1 locs1 → lv_has ls1 nL (lv1 x) → W p l e R s m args below meth c H1 locs1 cells slots Q (F0 m pc2 ls1 (st1 x))) (k : (∀ (x : σ) (ls1 : Array Slot) (H1 : Heap) (locs1 : List Loc), P x → Wd G A s (ws1 x) H1 locs1 → lv_has ls1 nL (lv1 x) → W p l e R s m args below meth c H1 locs1 cells slots Q (F0 m pc2 ls1 (st1 x))) → W p l e R s m args below meth c H locs cells slots Q (F0 m pc ls st)) : W p l e R s m args below meth c H locs cells slots Q (F0 m pc ls st) := k J
/-- a loop: cells, locals and stack as they hang on x; the measure falls -/
theorem w_loop {σ : Type} (pc2 : Nat) (μ : σ → Nat) (I : σ → Prop) (ws1 : σ → va_W) (lv1 : σ → List (Nat × Value)) (st1 : σ → List Value)
    (step : ∀ (x : σ) (ls1 : Array Slot) (H1 : Heap) (locs1 : List Loc), I x → Wd G A s (ws1 x) H1 locs1 → lv_has ls1 nL (lv1 x) → (∀ (x2 : σ) (ls2 : Array Slot) (H2 : Heap) (locs2 : List Loc), I x2 → μ x2 < μ x → Wd G A s (ws1 x2) H2 locs2 → lv_has ls2 nL (lv1 x2) → W p l e R s m args below meth c H2 locs2 cells slots Q (F0 m pc2 ls2 (st1 x2))) → W p l e R s m args below meth c H1 locs1 cells slots Q (F0 m pc2 ls1 (st1 x))) :
    ∀ (x : σ) (ls1 : Array Slot) (H1 : Heap) (locs1 : List Loc), I x → Wd G A s (ws1 x) H1 locs1 → lv_has ls1 nL (lv1 x) → W p l e R s m args below meth c H1 locs1 cells slots Q (F0 m pc2 ls1 (st1 x)) := by
  have key : ∀ (n : Nat) (x : σ) (ls1 : Array Slot) (H1 : Heap) (locs1 : List Loc), μ x < n → I x → Wd G A s (ws1 x) H1 locs1 → lv_has ls1 nL (lv1 x) → W p l e R s m args below meth c H1 locs1 cells slots Q (F0 m pc2 ls1 (st1 x)) := by
    intro n
    induction n with
    | zero => exact fun x _ _ _ h => absurd h (Nat.not_lt_zero _)
    | succ n ih => exact fun x ls1 H1 locs1 h hI hw hl => step x ls1 H1 locs1 hI hw hl (fun x2 ls2 H2 locs2 hI2 hm hw2 hl2 => ih x2 ls2 H2 locs2 (by omega) hI2 hw2 hl2)
  exact fun x ls1 H1 locs1 => key (μ x + 1) x ls1 H1 locs1 (Nat.lt_succ_self _)
/-- a loop that leaves the heap as it is -/
theorem w_loopS {σ : Type} (pc2 : Nat) (μ : σ → Nat) (I : σ → Prop) (lv1 : σ → List (Nat × Value)) (st1 : σ → List Value)
    (step : ∀ (x : σ) (ls1 : Array Slot), I x → lv_has ls1 nL (lv1 x) → (∀ (x2 : σ) (ls2 : Array Slot), I x2 → μ x2 < μ x → lv_has ls2 nL (lv1 x2) → W p l e R s m args below meth c H locs cells slots Q (F0 m pc2 ls2 (st1 x2))) → W p l e R s m args below meth c H locs cells slots Q (F0 m pc2 ls1 (st1 x))) :
    ∀ (x : σ) (ls1 : Array Slot), I x → lv_has ls1 nL (lv1 x) → W p l e R s m args below meth c H locs cells slots Q (F0 m pc2 ls1 (st1 x)) := by
  have key : ∀ (n : Nat) (x : σ) (ls1 : Array Slot), μ x < n → I x → lv_has ls1 nL (lv1 x) → W p l e R s m args below meth c H locs cells slots Q (F0 m pc2 ls1 (st1 x)) := by
    intro n
    induction n with
    | zero => exact fun x _ h => absurd h (Nat.not_lt_zero _)
    | succ n ih => exact fun x ls1 h hI hl => step x ls1 hI hl (fun x2 ls2 hI2 hm hl2 => ih x2 ls2 (by omega) hI2 hl2)
  exact fun x ls1 => key (μ x + 1) x ls1 (Nat.lt_succ_self _)
end Base2
/-! ===== pure words ===== -/
def atF (f : Nat → Int32) (n : Nat) (i : Int32) : Int32 := if ¬ i < 0 ∧ i < Int32.ofNat n then f i.toNatClampNeg else -1
def putF (f : Nat → Int32) (n : Nat) (i v : Int32) : Nat → Int32 := if ¬ i < 0 ∧ i < Int32.ofNat n then upd f i.toNatClampNeg v else f
theorem atF_pos {f : Nat → Int32} {n : Nat} {i : Int32} (h0 : ¬ i < 0) (h1 : ¬ Int32.ofNat n ≤ i) : atF f n i = f i.toNatClampNeg := if_pos ⟨h0, Int32.not_le.mp h1⟩
theorem atF_lo {f : Nat → Int32} {n : Nat} {i : Int32} (h0 : i < 0) : atF f n i = -1 := if_neg (fun h => h.1 h0)
theorem atF_hi {f : Nat → Int32} {n : Nat} {i : Int32} (h1 : Int32.ofNat n ≤ i) : atF f n i = -1 := if_neg (fun h => absurd h.2 (Int32.not_lt.mpr h1))
theorem putF_pos {f : Nat → Int32} {n : Nat} {i v : Int32} (h0 : ¬ i < 0) (h1 : ¬ Int32.ofNat n ≤ i) : putF f n i v = upd f i.toNatClampNeg v := if_pos ⟨h0, Int32.not_le.mp h1⟩
theorem putF_lo {f : Nat → Int32} {n : Nat} {i v : Int32} (h0 : i < 0) : putF f n i v = f := if_neg (fun h => h.1 h0)
theorem putF_hi {f : Nat → Int32} {n : Nat} {i v : Int32} (h1 : Int32.ofNat n ≤ i) : putF f n i v = f := if_neg (fun h => absurd h.2 (Int32.not_lt.mpr h1))
theorem in_of {i : Int32} {n : Nat} (hn : n < 2 ^ 31) (h0 : ¬ i < 0) (h1 : i < Int32.ofNat n) : vp_in i n := by
  rw [vp_in_iff]
  have e : (Int32.ofNat n).toInt = (n : Int) := nI_toInt hn
  have a := Int32.not_lt.mp h0
  rw [Int32.le_iff_toInt_le] at a
  rw [Int32.lt_iff_toInt_lt, e] at h1
  exact ⟨a, h1⟩
theorem in_of2 {i : Int32} {n : Nat} (hn : n < 2 ^ 31) (h0 : ¬ i < 0) (h1 : ¬ Int32.ofNat n ≤ i) : vp_in i n := in_of hn h0 (Int32.not_le.mp h1)
