/-! ===== sums over all sets, and how great a coefficient can be ===== -/
def sumL : List Int32 → (Int32 → Int) → Int
  | [], _ => 0
  | a :: l, h => h a + sumL l h
def sumN : Nat → (Nat → Int) → Int
  | 0, _ => 0
  | n + 1, h => sumN n h + h n
theorem sumL_congr {h k : Int32 → Int} : ∀ {l : List Int32}, (∀ t, t ∈ l → h t = k t) → sumL l h = sumL l k
  | [], _ => rfl
  | a :: l, e => by
    show h a + sumL l h = k a + sumL l k
    rw [e a List.mem_cons_self, sumL_congr (fun t ht => e t (List.mem_cons_of_mem a ht))]
theorem sumN_congr {h k : Nat → Int} : ∀ {n : Nat}, (∀ j, j < n → h j = k j) → sumN n h = sumN n k
  | 0, _ => rfl
  | n + 1, e => by
    show sumN n h + h n = sumN n k + k n
    rw [e n (Nat.lt_succ_self n), sumN_congr (fun j hj => e j (Nat.lt_succ_of_lt hj))]
theorem sumL_zero : ∀ (l : List Int32), sumL l (fun _ => 0) = 0
  | [] => rfl
  | a :: l => by
    show 0 + sumL l (fun _ => 0) = 0
    rw [sumL_zero l]; rfl
theorem sumL_add (h k : Int32 → Int) : ∀ (l : List Int32), sumL l (fun t => h t + k t) = sumL l h + sumL l k
  | [] => rfl
  | a :: l => by
    show h a + k a + sumL l (fun t => h t + k t) = (h a + sumL l h) + (k a + sumL l k)
    rw [sumL_add h k l]; omega
theorem sumL_swap (h : Int32 → Int32 → Int) (m : List Int32) : ∀ (l : List Int32), sumL l (fun a => sumL m (fun b => h a b)) = sumL m (fun b => sumL l (fun a => h a b))
  | [] => (sumL_zero m).symm
  | a :: l => by
    show sumL m (fun b => h a b) + sumL l (fun a => sumL m (fun b => h a b)) = sumL m (fun b => h a b + sumL l (fun a => h a b))
    rw [sumL_add, sumL_swap h m l]
theorem sumL_sumN (h : Int32 → Nat → Int) (l : List Int32) : ∀ (n : Nat), sumL l (fun t => sumN n (fun j => h t j)) = sumN n (fun j => sumL l (fun t => h t j))
  | 0 => sumL_zero l
  | n + 1 => by
    show sumL l (fun t => sumN n (fun j => h t j) + h t n) = sumN n (fun j => sumL l (fun t => h t j)) + sumL l (fun t => h t n)
    rw [sumL_add, sumL_sumN h l n]
theorem sumL_delta {x : Int32} {v : Int} : ∀ {l : List Int32}, l.Nodup → x ∈ l → sumL l (fun t => if t = x then v else 0) = v
  | [], _, h => absurd h List.not_mem_nil
  | a :: l, nd, h => by
    show (if a = x then v else 0) + sumL l (fun t => if t = x then v else 0) = v
    have nd2 := List.nodup_cons.mp nd
    by_cases q : a = x
    · rw [if_pos q, sumL_congr (k := fun _ => 0) (fun t ht => if_neg (fun e => nd2.1 (by rw [q, ← e]; exact ht))), sumL_zero, Int.add_zero]
    · rw [if_neg q, sumL_delta nd2.2 ((List.mem_cons.mp h).resolve_left (fun e => q e.symm)), Int.zero_add]
theorem sumN_pick {S : Nat → Int32} {h : Int32 → Int} {t : Int32} : ∀ (n : Nat), (∀ i j, i < j → j < n → ¬ S j = S i) → ((∃ j, j < n ∧ S j = t) → sumN n (fun j => if t = S j then h (S j) else 0) = h t) ∧ ((∀ j, j < n → ¬ S j = t) → sumN n (fun j => if t = S j then h (S j) else 0) = 0)
  | 0, _ => ⟨fun ⟨j, hj, _⟩ => absurd hj (Nat.not_lt_zero j), fun _ => rfl⟩
  | n + 1, inj => by
    have ih := sumN_pick (S := S) (h := h) (t := t) n (fun i j hij hj => inj i j hij (by omega))
    have e : sumN (n + 1) (fun j => if t = S j then h (S j) else 0) = sumN n (fun j => if t = S j then h (S j) else 0) + (if t = S n then h (S n) else 0) := rfl
    constructor
    · intro ⟨j, hj, ej⟩
      rw [e]
      by_cases q : t = S n
      · rw [if_pos q, ih.2 (fun i hi w => inj i n hi (by omega) (q.symm.trans w.symm)), ← q, Int.zero_add]
      · have jn : ¬ j = n := fun w => q (by rw [← w]; exact ej.symm)
        rw [if_neg q, ih.1 ⟨j, by omega, ej⟩, Int.add_zero]
    · intro hn
      rw [e, ih.2 (fun j hj => hn j (by omega)), if_neg (fun w => hn n (by omega) w.symm), Int.add_zero]
theorem sum_supp {l : List Int32} (nd : l.Nodup) {n : Nat} {S : Nat → Int32} (inj : ∀ i j, i < j → j < n → ¬ S j = S i) (mem : ∀ j, j < n → S j ∈ l) {h : Int32 → Int} (hz : ∀ t, t ∈ l → (∀ j, j < n → ¬ S j = t) → h t = 0) : sumL l h = sumN n (fun j => h (S j)) := by
  have e1 : sumL l h = sumL l (fun t => sumN n (fun j => if t = S j then h (S j) else 0)) := by
    refine sumL_congr (fun t ht => ?_)
    by_cases c : ∃ j, j < n ∧ S j = t
    · exact ((sumN_pick n inj).1 c).symm
    · have c2 : ∀ j, j < n → ¬ S j = t := fun j hj e => c ⟨j, hj, e⟩
      rw [hz t ht c2]; exact ((sumN_pick n inj).2 c2).symm
  rw [e1, sumL_sumN]
  exact sumN_congr (fun j hj => sumL_delta nd (mem j hj))
def allS : List Int32 := (List.range 262144).map nI
theorem allS_nodup : allS.Nodup := List.pairwise_map.mpr (List.Pairwise.imp_of_mem (fun {a b} ha hb hab e => hab (nI_inj (by have := List.mem_range.mp ha; omega) (by have := List.mem_range.mp hb; omega) e)) List.nodup_range)
theorem bI_ge {a : Int32} {i : Nat} (h : 32 ≤ i) : bI a i = false := BitVec.getLsbD_of_ge _ _ h
theorem bI_zero (i : Nat) : bI 0 i = false := by
  show (0#32).getLsbD i = false
  simp
theorem bI_not (a : Int32) {i : Nat} (h : i < 32) : bI (~~~a) i = !bI a i := by
  unfold bI
  rw [Int32.toBitVec_not, BitVec.getLsbD_not]
  simp [h]
def inS (t : Int32) : Prop := ∀ i, 18 ≤ i → bI t i = false
theorem mem_allS {t : Int32} : t ∈ allS ↔ inS t := by
  constructor
  · intro h i hi
    obtain ⟨m, hm, e⟩ := List.mem_map.mp h
    have hm2 : m < 2 ^ 18 := List.mem_range.mp hm
    rw [← e]
    by_cases q : i < 32
    · rw [bI_nI q]
      exact Nat.testBit_lt_two_pow (Nat.lt_of_lt_of_le hm2 (Nat.pow_le_pow_right (by decide) hi))
    · exact bI_ge (by omega)
  · intro h
    have hl : t.toBitVec.toNat < 2 ^ 18 := Nat.lt_pow_two_of_testBit _ (fun i hi => h i hi)
    refine List.mem_map.mpr ⟨t.toBitVec.toNat, List.mem_range.mpr hl, ?_⟩
    apply Int32.toBitVec_inj.mp
    show BitVec.ofNat 32 t.toBitVec.toNat = t.toBitVec
    simp
theorem inS_or {a b : Int32} (ha : inS a) (hb : inS b) : inS (a ||| b) := fun i hi => by
  rw [bI_or, ha i hi, hb i hi]; rfl
theorem inS_and {a b : Int32} (ha : inS a) : inS (a &&& b) := fun i hi => by
  rw [bI_and, ha i hi]; rfl
theorem inS_0 : inS 0 := fun i _ => bI_zero i
def bitI (k : Nat) : Int32 := (1 : Int32) <<< (nI k &&& 31)
theorem bI_bit {k i : Nat} (hk : k < 18) : bI (bitI k) i = decide (i = k) := by
  by_cases h : i < 32
  · have e := bI_shl true (k := k) (i := i) (by omega) h
    rw [Bool.true_and] at e
    exact e
  · rw [bI_ge (by omega)]
    have : ¬ i = k := by omega
    simp [this]
theorem inS_bit {k : Nat} (hk : k < 18) : inS (bitI k) := fun i hi => by
  rw [bI_bit hk]
  have : ¬ i = k := by omega
  simp [this]
theorem sub_iff {s z : Int32} : s &&& ~~~z = 0 ↔ ∀ i, bI s i = true → bI z i = true := by
  constructor
  · intro h i hs
    by_cases q : i < 32
    · have e : bI (s &&& ~~~z) i = bI 0 i := by rw [h]
      rw [bI_and, bI_not _ q, bI_zero, hs] at e
      cases c : bI z i
      · rw [c] at e; exact absurd e (by decide)
      · rfl
    · rw [bI_ge (by omega)] at hs; exact absurd hs (by decide)
  · intro h
    apply bI_inj
    intro i hi
    rw [bI_and, bI_not _ hi, bI_zero]
    cases c : bI s i
    · rfl
    · rw [h i c]; rfl
theorem sub_or {a b z : Int32} : (a ||| b) &&& ~~~z = 0 ↔ a &&& ~~~z = 0 ∧ b &&& ~~~z = 0 := by
  rw [sub_iff, sub_iff, sub_iff]
  constructor
  · exact fun h => ⟨fun i hi => h i (by rw [bI_or, hi]; rfl), fun i hi => h i (by rw [bI_or, hi, Bool.or_true])⟩
  · intro ⟨h1, h2⟩ i hi
    rw [bI_or] at hi
    rcases Bool.or_eq_true_iff.mp hi with q | q
    · exact h1 i q
    · exact h2 i q
theorem and_bit {s : Int32} {k : Nat} (hk : k < 18) : s &&& bitI k = 0 ↔ bI s k = false := by
  constructor
  · intro h
    have e : bI (s &&& bitI k) k = bI 0 k := by rw [h]
    rw [bI_and, bI_bit hk, bI_zero] at e
    simpa using e
  · intro h
    apply bI_inj
    intro i hi
    rw [bI_and, bI_bit hk, bI_zero]
    by_cases q : i = k
    · subst q; rw [h]; rfl
    · simp [q]
/-- in place of a gate its polynomial: what one term gives -/
def tc3 (k : Int32) : Int := (atF (tbF 3) 8 k).toInt
def tc4 (k : Int32) : Int := (atF (tbF 4) 8 k).toInt
def tc5 (k : Int32) : Int := (atF (tbF 5) 8 k).toInt
def tc6 (k : Int32) : Int := (atF (tbF 6) 8 k).toInt
def rpP (kk x y g s : Int32) (c : Int) (P : Int32 → Int) : Int32 → Int := if s &&& g = 0 then pAdd P s c else pAdd (pAdd (pAdd (pAdd P (s &&& ~~~g) (c * tc3 kk)) ((s &&& ~~~g) ||| x) (c * tc4 kk)) ((s &&& ~~~g) ||| y) (c * tc5 kk)) ((s &&& ~~~g) ||| x ||| y) (c * tc6 kk)
def rpc (kk x y g s : Int32) (c : Int) (t : Int32) : Int := if s &&& g = 0 then (if t = s then c else 0) else (if t = s &&& ~~~g then c * tc3 kk else 0) + (if t = (s &&& ~~~g) ||| x then c * tc4 kk else 0) + (if t = (s &&& ~~~g) ||| y then c * tc5 kk else 0) + (if t = (s &&& ~~~g) ||| x ||| y then c * tc6 kk else 0)
theorem rp_eq (kk x y g s : Int32) (c : Int) (P : Int32 → Int) (t : Int32) : rpP kk x y g s c P t = P t + rpc kk x y g s c t := by
  unfold rpP rpc
  by_cases h : s &&& g = 0
  · rw [if_pos h, if_pos h]; rfl
  · rw [if_neg h, if_neg h]
    unfold pAdd
    omega
theorem rpc_0 (kk x y g s t : Int32) : rpc kk x y g s 0 t = 0 := by
  unfold rpc
  simp
def rpF (kk x y g : Int32) (S : Nat → Int32) (Z : Nat → Int) : Nat → Int32 → Int
  | 0 => fun _ => 0
  | j + 1 => rpP kk x y g (S j) (Z j) (rpF kk x y g S Z j)
theorem rpF_sum (kk x y g : Int32) (S : Nat → Int32) (Z : Nat → Int) (t : Int32) : ∀ n, rpF kk x y g S Z n t = sumN n (fun j => rpc kk x y g (S j) (Z j) t)
  | 0 => rfl
  | n + 1 => by
    show rpP kk x y g (S n) (Z n) (rpF kk x y g S Z n) t = sumN n (fun j => rpc kk x y g (S j) (Z j) t) + rpc kk x y g (S n) (Z n) t
    rw [rp_eq, rpF_sum kk x y g S Z t n]
def nxP (kk x y g : Int32) (P : Int32 → Int) : Int32 → Int := fun t => sumL allS (fun s => rpc kk x y g s (P s) t)
def supP (P : Int32 → Int) : Prop := ∀ t, ¬ P t = 0 → inS t
theorem rpF_nxt {kk x y g : Int32} {n : Nat} {S : Nat → Int32} {Z : Nat → Int} {P : Int32 → Int} (sp : supP P) (inj : ∀ i j, i < j → j < n → ¬ S j = S i) (hz : ∀ j, j < n → Z j = P (S j) ∧ ¬ P (S j) = 0) (hc : ∀ t, ¬ P t = 0 → ∃ j, j < n ∧ S j = t) : rpF kk x y g S Z n = nxP kk x y g P := by
  funext t
  rw [rpF_sum]
  show _ = sumL allS (fun s => rpc kk x y g s (P s) t)
  rw [sum_supp allS_nodup inj (fun j hj => mem_allS.mpr (sp _ (hz j hj).2))]
  · exact sumN_congr (fun j hj => by rw [(hz j hj).1])
  · intro s _ hs
    have : P s = 0 := by
      by_cases q : P s = 0
      · exact q
      · obtain ⟨j, hj, e⟩ := hc s q
        exact absurd e (hs j hj)
    show rpc kk x y g s (P s) t = 0
    rw [this, rpc_0]
def EvP (P : Int32 → Int) (z : Int32) : Int := sumL allS (fun s => if s &&& ~~~z = 0 then P s else 0)
theorem sumL_dl {x z : Int32} {v : Int} (hx : inS x) : sumL allS (fun t => if t &&& ~~~z = 0 then (if t = x then v else 0) else 0) = if x &&& ~~~z = 0 then v else 0 := by
  rw [sumL_congr (k := fun t => if t = x then (if x &&& ~~~z = 0 then v else 0) else 0)]
  · exact sumL_delta allS_nodup (mem_allS.mpr hx)
  · intro t _
    by_cases q : t = x
    · rw [q, if_pos rfl, if_pos rfl]
    · rw [if_neg q, if_neg q]
      by_cases w : t &&& ~~~z = 0
      · rw [if_pos w]
      · rw [if_neg w]
theorem tv_ok : ∀ k, k < 8 → ∀ a b : Bool, tc3 (nI k) + (if a = true then tc4 (nI k) else 0) + (if b = true then tc5 (nI k) else 0) + (if (a && b) = true then tc6 (nI k) else 0) = 0 ∨ tc3 (nI k) + (if a = true then tc4 (nI k) else 0) + (if b = true then tc5 (nI k) else 0) + (if (a && b) = true then tc6 (nI k) else 0) = 1 := by decide +kernel
