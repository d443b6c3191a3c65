/-! ===== the digest ===== -/
def fH (v : Nat → Int32) : Nat → Int64 → Int64
  | 0, h => h
  | j + 1, h => 31 * fH v j h + (v j).toInt64
def fG3 (k x y : Nat → Int32) : Nat → Int64 → Int64
  | 0, h => h
  | j + 1, h => 31 * (31 * (31 * fG3 k x y j h + (k j).toInt64) + (x j).toInt64) + (y j).toInt64
theorem fH_z {v : Nat → Int32} {h : Int64} {n : Nat} (e : n = 0) : h = fH v n h := by
  subst e; rfl
theorem fG3_z {k x y : Nat → Int32} {h : Int64} : h = fG3 k x y 0 h := rfl
theorem fH_s {v : Nat → Int32} {h : Int64} {n : Nat} : fH v (n + 1) h = 31 * fH v n h + (v n).toInt64 := rfl
theorem fG3_s {k x y : Nat → Int32} {h : Int64} {n : Nat} : fG3 k x y (n + 1) h = 31 * (31 * (31 * fG3 k x y n h + (k n).toInt64) + (x n).toInt64) + (y n).toInt64 := rfl
theorem fH_congr {v u : Nat → Int32} {h : Int64} : ∀ {n : Nat}, (∀ j, j < n → v j = u j) → fH v n h = fH u n h
  | 0, _ => rfl
  | n + 1, e => by
    show 31 * fH v n h + (v n).toInt64 = 31 * fH u n h + (u n).toInt64
    rw [fH_congr (fun j hj => e j (by omega)), e n (Nat.lt_succ_self n)]
theorem fG3_congr {k x y k2 x2 y2 : Nat → Int32} {h : Int64} : ∀ {n : Nat}, (∀ j, j < n → k j = k2 j ∧ x j = x2 j ∧ y j = y2 j) → fG3 k x y n h = fG3 k2 x2 y2 n h
  | 0, _ => rfl
  | n + 1, e => by
    obtain ⟨a, b, c⟩ := e n (Nat.lt_succ_self n)
    show 31 * (31 * (31 * fG3 k x y n h + (k n).toInt64) + (x n).toInt64) + (y n).toInt64 = 31 * (31 * (31 * fG3 k2 x2 y2 n h + (k2 n).toInt64) + (x2 n).toInt64) + (y2 n).toInt64
    rw [fG3_congr (fun j hj => e j (by omega)), a, b, c]
def dgC (nB nN nF tL cT cI cG cO cK cP cQ : Int32) (fK fX fY fZ : Nat → Int32) (w : Int32) : Int64 := 31 * (31 * (31 * (31 * fH (fun j => atF fZ 7 (nI j)) cO.toNatClampNeg (fG3 (fun j => atF fK 12 (nI j)) (fun j => atF fX 12 (nI j)) (fun j => atF fY 12 (nI j)) cG.toNatClampNeg (fH (fun j => countF nB nN nF tL cI cG cO (nI j)) 7 1993)) + (if cT = 0 then -1 else cK : Int32).toInt64) + (if cT = 0 then -1 else cP : Int32).toInt64) + (if cT = 0 then -1 else cQ : Int32).toInt64) + (if cT = 0 then -1 else w : Int32).toInt64
def dgM (fR : Nat → Int32) (mt : Int32) (f : Nat → Int32) (g o : Nat) (w : Int32) : Int64 := 31 * fH (fun j => if thereM f = 0 then -1 else f (3 + j)) 3 (fH (fun j => f (42 + j)) o (fG3 (fun j => f (6 + j)) (fun j => f (18 + j)) (fun j => f (30 + j)) g (fH (fun j => countM fR mt f (nI j)) 7 1993))) + (if thereM f = 0 then -1 else w : Int32).toInt64
theorem count_both {nB nN nF cI cG cO x t : Int32} {fR f : Nat → Int32} (h : CTR nB nN nF fR) (hI : cI = f 0) (hG : cG = f 1) (hO : cO = f 2) (hx : ¬ inF x 0 6 = 0) : countF nB nN nF t cI cG cO x = countM fR t f x := by
  have e := cnt_both (x := x) (t := t) h hI hG hO
  unfold cntF cntM at e
  rw [if_neg hx, if_neg (fun q => hx (in06.mp q))] at e
  exact e
theorem dig_eq {nB nN nF t cT cI cG cO cK cP cQ : Int32} {fK fX fY fZ f fR : Nat → Int32} {gW : Nat → Int64} (h : EXW cT cI cG cO cK cP cQ fK fX fY fZ gW f) (ct : CTR nB nN nF fR) (n3 : N3 cI cG cO f) : dgC nB nN nF t cT cI cG cO cK cP cQ fK fX fY fZ (foldF (countW1 (fun j => isWrongF gW cO cK cP cQ fZ (nI j))) (allN cI) 0) = dgM fR t f (f 1).toNatClampNeg (f 2).toNatClampNeg (foldF (countW1 (wqM f (f 1).toNatClampNeg (f 2).toNatClampNeg)) (allN (f 0)) 0) := by
  have e7 : fH (fun j => countF nB nN nF t cI cG cO (nI j)) 7 1993 = fH (fun j => countM fR t f (nI j)) 7 1993 := fH_congr (fun j hj => count_both ct n3.1 n3.2.1 n3.2.2.1 (by
    unfold inF
    rw [if_neg (nI_pos (by omega)), if_neg (by rw [show (6 : Int32) = nI 6 from rfl, nI_ltI (by decide) (by omega)]; omega)]
    decide))
  have hw := ex_wrong (w := 1) h
  have eG : cG.toNatClampNeg = (f 1).toNatClampNeg := by rw [n3.2.1]
  have eO : cO.toNatClampNeg = (f 2).toNatClampNeg := by rw [n3.2.2.1]
  have f3 : ∀ (v : Nat → Int32) (x : Int64), fH v 3 x = 31 * (31 * (31 * x + (v 0).toInt64) + (v 1).toInt64) + (v 2).toInt64 := fun _ _ => rfl
  unfold dgC dgM
  rw [e7, eG, eO, f3]
  rcases h with ⟨h0, ht⟩ | ⟨h0, ht, rc, n, g, o, w0, e1, e2, ho, wf, wo, hc⟩
  · obtain ⟨z1, z2⟩ := n3.2.2.2 ht
    have g0 : (f 1).toNatClampNeg = 0 := by rw [z1]; rfl
    have o0 : (f 2).toNatClampNeg = 0 := by rw [z2]; rfl
    rw [g0, o0]
    simp only [if_pos h0, if_pos ht]
    rfl
  · obtain ⟨q0, q1, q2, q3, q4, q5, g', o', hg', ho', e1', e2', ga, go⟩ := rc
    have eg : (f 1).toNatClampNeg = g' := by rw [e1', nI_clamp (by omega)]
    have eo : (f 2).toNatClampNeg = o' := by rw [e2', nI_clamp (by omega)]
    have eK : ∀ h, fG3 (fun j => atF fK 12 (nI j)) (fun j => atF fX 12 (nI j)) (fun j => atF fY 12 (nI j)) (f 1).toNatClampNeg h = fG3 (fun j => f (6 + j)) (fun j => f (18 + j)) (fun j => f (30 + j)) (f 1).toNatClampNeg h := fun h => fG3_congr (fun j hj => by
      rw [eg] at hj
      obtain ⟨a, b, c⟩ := ga j hj
      show atF fK 12 (nI j) = _ ∧ atF fX 12 (nI j) = _ ∧ atF fY 12 (nI j) = _
      rw [atF_nI (by omega) (by decide), atF_nI (by omega) (by decide), atF_nI (by omega) (by decide)]
      exact ⟨a, b, c⟩)
    have eZ : ∀ h, fH (fun j => atF fZ 7 (nI j)) (f 2).toNatClampNeg h = fH (fun j => f (42 + j)) (f 2).toNatClampNeg h := fun h => fH_congr (fun j hj => by
      rw [eo] at hj
      show atF fZ 7 (nI j) = _
      rw [atF_nI (by omega) (by decide)]
      exact go j hj)
    have n0 : ¬ cT = 0 := by rw [h0]; decide
    have hr : refusalF cT (zWrong 1) = 0 := by rw [h0]; decide
    rw [if_pos hr, if_neg (by decide)] at hw
    unfold wrongS at hw
    rw [if_neg (by decide), if_neg ht, if_neg (by decide)] at hw
    rw [hw, eK, eZ]
    simp only [if_neg n0, if_neg ht, q3, q4, q5]
