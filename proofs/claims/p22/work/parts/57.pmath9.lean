/-! ===== words for the class's stages ===== -/
theorem hi_strict {S : Nat → Int32} {n p : Nat} {x : Int32} (hd : ∀ i j, i < j → j < n → S j < S i) (hhi : ∀ j, p ≤ j → j < n → S j ≤ x) (hne : p < n → ¬ S p = x) : ∀ j, p ≤ j → j < n → S j < x := by
  intro j h1 h2
  by_cases e : j = p
  · subst e; exact Int32.lt_of_le_of_ne (hhi j h1 h2) (hne h2)
  · exact Int32.lt_of_lt_of_le (hd p j (by omega) h2) (hhi p (Nat.le_refl p) (by omega))
theorem sh_of : ∀ i, i < 13 → ((1 : Int32) <<< (nI i &&& 31)) = Int32.ofInt ((2 ^ i : Nat) : Int) := by decide +kernel
theorem xor_m1 (x : Int32) : x ^^^ (-1) = ~~~x := by
  apply bI_inj
  intro i hi
  rw [bI_not _ hi]
  have e : ∀ i, i < 32 → bI (-1) i = true := by decide +kernel
  have h : bI (x ^^^ (-1)) i = (bI x i ^^ bI (-1) i) := by
    unfold bI
    rw [Int32.toBitVec_xor, BitVec.getLsbD_xor]
  rw [h, e i hi]
  cases bI x i <;> rfl
theorem set_bit {k : Nat} (h : k < 18) : setOfF (nI k) = bitI k := by
  unfold setOfF bitI
  rw [if_neg (nI_pos (by omega)), if_neg (by rw [show (18 : Int32) = nI 18 from rfl, nI_leI (by decide) (by omega)]; omega)]
theorem mul_of (c v : Int32) : c * v = Int32.ofInt (c.toInt * v.toInt) := by
  rw [Int32.ofInt_mul, Int32.ofInt_toInt, Int32.ofInt_toInt]
theorem nmul_of (k : Int32) (T : Int) (a : Int32) (hT : Int32.ofInt T = a) {i : Nat} (hi : i < 13) : (-a) * ((1 : Int32) <<< (nI i &&& 31)) = Int32.ofInt (-T * ((2 ^ i : Nat) : Int)) := by
  rw [Int32.ofInt_mul, Int32.ofInt_neg, hT, sh_of i hi]
theorem nsh_of {i : Nat} (hi : i < 13) : (-((1 : Int32) <<< (nI i &&& 31))) = Int32.ofInt (-((2 ^ i : Nat) : Int)) := by
  rw [Int32.ofInt_neg, sh_of i hi]
theorem tq_le {k : Int32} {p q : Nat} (hp : p ≤ 6) (hq : q ≤ 6) : tqF k p ≤ 6 ∧ tqN k p q ≤ 6 := by
  unfold tqF tqN
  by_cases c : k = 1
  · rw [if_pos c, if_pos c]; omega
  · rw [if_neg c, if_neg c]
    by_cases d : k = 2
    · rw [if_pos d]; omega
    · rw [if_neg d]; omega
theorem set_out {fZ f : Nat → Int32} {o j : Nat} (hj : j < o) (ho : o ≤ 7) (hz : ∀ j, j < o → fZ j = f (42 + j)) (hw : ∀ j, j < o → ∃ s, f (42 + j) = nI s ∧ s < 18) : setOfF (atF fZ 7 (nI j)) = (1 : Int32) <<< (f (42 + j) &&& 31) := by
  obtain ⟨s, e, l⟩ := hw j hj
  rw [atF_nI (by omega) (by decide), hz j hj, e]
  exact set_bit l
def blkF (a b : Nat → Int32) (m : Nat) : Nat → Nat → Int32
  | 0 => a
  | j + 1 => upd (blkF a b m j) (m + j) (b j)
theorem ix40 {k j : Nat} (hk : k ≤ 12) (hj : j < 40) : nI k * 40 + nI j = nI (40 * k + j) := by
  have e : nI k * 40 = nI (40 * k) := by
    have h : ∀ k, k < 13 → nI k * 40 = nI (40 * k) := by decide +kernel
    exact h k (by omega)
  rw [e, nI_add]
theorem blk_put {a b : Nat → Int32} {k j : Nat} (hk : k ≤ 12) (hj : j < 40) : blkF a b (40 * k) (j + 1) = putF (blkF a b (40 * k) j) 520 (nI k * 40 + nI j) (atF b 160 (nI j)) := by
  rw [ix40 hk hj, putF_nI (by omega) (by decide), atF_nI (by omega) (by decide)]; rfl
theorem blk_lo {a b : Nat → Int32} {m i : Nat} : ∀ {n : Nat}, i < m → blkF a b m n i = a i
  | 0, _ => rfl
  | n + 1, h => by
    show upd (blkF a b m n) (m + n) (b n) i = a i
    rw [pk_un (by omega)]; exact blk_lo h
theorem blk_in {a b : Nat → Int32} {m i : Nat} : ∀ {n : Nat}, i < n → blkF a b m n (m + i) = b i
  | 0, h => absurd h (Nat.not_lt_zero i)
  | n + 1, h => by
    show upd (blkF a b m n) (m + n) (b n) (m + i) = b i
    by_cases e : i = n
    · subst e; exact pk_us
    · rw [pk_un (by omega)]; exact blk_in (by omega)
theorem st40_ok {f : Nat → Int32} {k j : Nat} (hk : k ≤ 12) (hj : j < 40) : st40 f (nI k) (nI j) = f (40 * k + j) := by
  unfold st40
  rw [ix40 hk hj, atF_nI (by omega) (by decide)]
theorem size_ok {f : Nat → Int32} {s k : Nat} (hk : k < s) (hs : s ≤ 13) : sizeOfF (nI s) f (nI k) = f k := by
  unfold sizeOfF
  rw [if_neg (nI_pos (by omega)), if_neg (nI_ge hk (by omega)), atF_nI (by omega) (by decide)]
/-- the stages that are kept -/
def SK (f : Nat → Int32) (g o p q sk : Nat) (sB : Int32) (a b c : Nat → Int32) : Prop := sk ≤ g + 1 ∧ (∀ k, k < sk → ∃ m, m ≤ 40 ∧ a k = nI m ∧ R32 m (fun j => b (40 * k + j)) (fun j => c (40 * k + j)) (PK f g o p q k)) ∧ (sB = 0 ∨ (sB = 1 ∧ sk ≤ g ∧ ∃ m S C, 40 < m ∧ R32 m S C (PK f g o p q sk)))
theorem SK.nil {f a b c : Nat → Int32} {g o p q : Nat} : SK f g o p q 0 0 a b c := ⟨Nat.zero_le _, fun k h => absurd h (Nat.not_lt_zero k), Or.inl rfl⟩
theorem SK.more {f a b c s d : Nat → Int32} {g o p q k n : Nat} {sB : Int32} (h : SK f g o p q k sB a b c) (hk : k ≤ g) (hg : g ≤ 12) (hB : sB = 0) (hn : n ≤ 40) (r : R32 n s d (PK f g o p q k)) : SK f g o p q (k + 1) sB (upd a k (nI n)) (blkF b s (40 * k) n) (blkF c d (40 * k) n) := by
  refine ⟨by omega, fun i hi => ?_, Or.inl hB⟩
  by_cases e : i = k
  · subst e
    exact ⟨n, hn, pk_us, r.of (fun j hj => ⟨blk_in hj, blk_in hj⟩)⟩
  · obtain ⟨m, m40, am, rm⟩ := h.2.1 i (by omega)
    refine ⟨m, m40, (pk_un e).trans am, rm.of (fun j hj => ⟨blk_lo (by omega), blk_lo (by omega)⟩)⟩
theorem SK.full {f a b c s d : Nat → Int32} {g o p q k n : Nat} {sB : Int32} (h : SK f g o p q k sB a b c) (hk : k ≤ g) (hn : 40 < n) (r : R32 n s d (PK f g o p q k)) : SK f g o p q k 1 a b c := ⟨h.1, h.2.1, Or.inr ⟨rfl, hk, n, s, d, hn, r⟩⟩
theorem rp_y {kk x y y2 g s : Int32} {c : Int} {P : Int32 → Int} (h : kk = 0 ∨ y = y2) (t : Int32) : rpP kk x y g s c P t = rpP kk x y2 g s c P t := by
  rcases h with h | h
  · have e5 : tc5 kk = 0 := by rw [h]; decide
    have e6 : tc6 kk = 0 := by rw [h]; decide
    rw [rp_eq, rp_eq]
    unfold rpc
    rw [e5, e6, Int.mul_zero]
    simp
  · rw [h]
theorem rp_at {kk x y g s : Int32} {c : Int} {P : Int32 → Int} (h : s &&& g = 0) : pAdd P s c = rpP kk x y g s c P := (if_pos h).symm
theorem rp_in {kk x y g s : Int32} {c : Int} {P : Int32 → Int} (h : ¬ s &&& g = 0) : pAdd (pAdd (pAdd (pAdd P (s &&& ~~~g) (c * tc3 kk)) ((s &&& ~~~g) ||| x) (c * tc4 kk)) ((s &&& ~~~g) ||| y) (c * tc5 kk)) ((s &&& ~~~g) ||| x ||| y) (c * tc6 kk) = rpP kk x y g s c P := (if_neg h).symm
/-- the next stage out of the one that is kept -/
theorem rpF_PK {f S C : Nat → Int32} {g o p q k n : Nat} (hb : BdP (PK f g o p q k) ∧ supP (PK f g o p q k)) (r : R32 n S C (PK f g o p q k)) : rpF (f (6 + (g - 1 - k))) (gX f (g - 1 - k)) (gY f (g - 1 - k)) (gG f (g - 1 - k)) S (fun j => (C j).toInt) n = PK f g o p q (k + 1) := by
  have z : ∀ t, Int32.ofInt (PK f g o p q k t) = 0 ↔ PK f g o p q k t = 0 := fun t => of32_0 (by have := (hb.1 t).1; omega) (hb.1 t).2
  refine rpF_nxt hb.2 (fun i j hij hj e => ?_) (fun j hj => ⟨?_, ?_⟩) (fun t ht => r.2.2 t (fun q => ht ((z t).mp q)))
  · have := r.1 i j hij hj
    rw [e] at this
    exact Int32.lt_irrefl this
  · show (C j).toInt = _
    rw [(r.2.1 j hj).1]; exact of32_z (by have := (hb.1 (S j)).1; omega) (hb.1 (S j)).2
  · exact fun q => (r.2.1 j hj).2 ((r.2.1 j hj).1.trans ((z _).mpr q))
theorem gG_set {f : Nat → Int32} {cI : Int32} {n k : Nat} (hI : cI = f 0) (f0 : f 0 = nI n) (h : n + k < 18) : setOfF (cI + nI k) = gG f k := by
  unfold gG
  rw [hI, f0, nI_add]
  exact set_bit h
theorem gX_set {f fX : Nat → Int32} {n g k : Nat} (wf : WF f n g) (hk : k < g) (hx : fX k = f (18 + k)) : setOfF (atF fX 12 (nI k)) = gX f k := by
  have h6 := wf.2.1
  have h12 := wf.2.2.1
  obtain ⟨⟨x, e, l⟩, _⟩ := wf.2.2.2 k hk
  unfold gX
  rw [atF_nI (by omega) (by decide), hx, e]
  exact set_bit (by omega)
theorem gY_set {f fY : Nat → Int32} {n g k : Nat} (wf : WF f n g) (hk : k < g) (hy : fY k = f (30 + k)) : f (6 + k) = 0 ∨ setOfF (atF fY 12 (nI k)) = gY f k := by
  have h6 := wf.2.1
  have h12 := wf.2.2.1
  by_cases c : f (6 + k) = 0
  · exact Or.inl c
  · refine Or.inr ?_
    rcases (wf.2.2.2 k hk).2 with w | ⟨y, e, l⟩
    · exact absurd w c
    · unfold gY
      rw [if_neg c, atF_nI (by omega) (by decide), hy, e]
      exact set_bit (by omega)
