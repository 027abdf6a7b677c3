/-! a plant's hour in numbers: what each owner lets go -/
def pM (a0 a1 mn m o : Int32) : Int32 × Int32 := if mn - m - o ≤ 0 then (m, o) else if a1 ≤ a0 then (m + (mn - m - o), o) else (m, o + (mn - m - o))
def pC (a0 a1 v w more : Int32) : Int32 × Int32 := if more ≤ 0 then (v, w) else if a1 - w ≤ a0 - v then (v - (more - (if w < more then w else more)), w - (if w < more then w else more)) else (v - (if v < more then v else more), w - (more - (if v < more then v else more)))
def pP (a0 a1 mn m o : Int32) : Int32 × Int32 := pC a0 a1 (pM a0 a1 mn m o).1 (pM a0 a1 mn m o).2 ((pM a0 a1 mn m o).1 + (pM a0 a1 mn m o).2 - (a0 + a1))
theorem if_le {x y : Int32} : (if x ≤ y then x else y) = if y < x then y else x := by
  by_cases h : x ≤ y
  · rw [if_pos h, if_neg (Int32.not_lt.mpr h)]
  · rw [if_neg h, if_pos (Int32.not_le.mp h)]
theorem mp_eq (J : mw_I) (p : Nat) : (mineV J p, otherV J p) = pM (J 49 (2 * p)) (J 49 (2 * p + 1)) (J 46 p) (J 47 (2 * p)) (J 47 (2 * p + 1)) := by
  unfold mineV otherV pM richerN
  show (J 47 (2 * p) + (if lacksV J p ≤ 0 then 0 else _), _) = if lacksV J p ≤ 0 then _ else if J 49 (2 * p + 1) ≤ J 49 (2 * p) then (J 47 (2 * p) + lacksV J p, _) else (_, J 47 (2 * p + 1) + lacksV J p)
  by_cases h : lacksV J p ≤ 0
  · rw [if_pos h, if_pos h, if_pos h, Int32.add_zero, Int32.add_zero]
  · rw [if_neg h, if_neg h, if_neg h]
    by_cases g : J 49 (2 * p + 1) ≤ J 49 (2 * p)
    · rw [if_pos g, if_pos g, if_neg (fun q => q rfl), if_pos (by decide), Int32.add_zero]
    · rw [if_neg g, if_neg g, if_pos (by decide), if_neg (fun q => q rfl), Int32.add_zero]
theorem mc_eq (J : mw_I) (p : Nat) (v w : Int32) : cutV J p v w = pC (J 49 (2 * p)) (J 49 (2 * p + 1)) v w (v + w - (J 49 (2 * p) + J 49 (2 * p + 1))) := by
  unfold cutV pC
  show (if v + w - (J 49 (2 * p) + J 49 (2 * p + 1)) ≤ 0 then (v, w) else if J 49 (2 * p + 1) - w ≤ J 49 (2 * p) - v then cut2V v w w (v + w - (J 49 (2 * p) + J 49 (2 * p + 1))) false else cut2V v w v (v + w - (J 49 (2 * p) + J 49 (2 * p + 1))) true) = _
  unfold cut2V
  simp only [if_true, if_false, Bool.false_eq_true, if_le]
theorem mPP (J : mw_I) (p : Nat) : cutV J p (mineV J p) (otherV J p) = pP (J 49 (2 * p)) (J 49 (2 * p + 1)) (J 46 p) (J 47 (2 * p)) (J 47 (2 * p + 1)) := by
  unfold pP
  rw [mc_eq, ← mp_eq]
section
variable {b : Nat}
theorem partB_eq (K : mw_I) : (partB K b (b + 3) 0, partB K b (b + 3) 1) = pM (K (b + 2) 0) (K (b + 2) 1) (K b 3) (K (b + 3) 0) (K (b + 3) 1) := by
  unfold partB pM moreV
  show _ = if lackV K b ≤ 0 then _ else if K (b + 2) 1 ≤ K (b + 2) 0 then (K (b + 3) 0 + lackV K b, _) else (_, K (b + 3) 1 + lackV K b)
  by_cases h : lackV K b ≤ 0
  · rw [if_pos h, if_pos h]
  · rw [if_neg h, if_neg h]
    by_cases g : K (b + 2) 1 ≤ K (b + 2) 0
    · rw [if_neg (Int32.not_lt.mpr g), if_pos g, mw_up_at, mw_up_nj (by decide)]
    · rw [if_pos (Int32.not_le.mp g), if_neg g, mw_up_at, mw_up_nj (by decide)]
theorem partC_eq (K : mw_I) (v : Int32) : (partC K b v (b + 3) 0, partC K b v (b + 3) 1) = pC (K (b + 2) 0) (K (b + 2) 1) (K (b + 3) 0) (K (b + 3) 1) (K (b + 3) 0 + K (b + 3) 1 - v) := by
  unfold partC pC cutI
  generalize K (b + 3) 0 + K (b + 3) 1 - v = t
  by_cases h : t ≤ 0
  · rw [if_pos h, if_pos h]
  · rw [if_neg h, if_neg h]
    by_cases g : K (b + 2) 1 - K (b + 3) 1 ≤ K (b + 2) 0 - K (b + 3) 0
    · rw [if_pos g, if_pos g]
      unfold cutF
      rw [mw_up_at, mw_up_nj (show (0 : Nat) ≠ 1 by decide), mw_up_nj (show (1 : Nat) ≠ 0 by decide), mw_up_at]
    · rw [if_neg g, if_neg g]
      unfold cutF
      rw [mw_up_at, mw_up_nj (show (0 : Nat) ≠ 1 by decide), mw_up_nj (show (1 : Nat) ≠ 0 by decide), mw_up_at]
theorem cPP (I : mw_I) : (partsI I b (waterV I b) (b + 3) 0, partsI I b (waterV I b) (b + 3) 1) = pP (I (b + 2) 0) (I (b + 2) 1) (I b 3) (I (b + 1) 0) (I (b + 1) 1) := by
  have a0 : partA I b (b + 3) 0 = I (b + 1) 0 := by
    unfold partA
    rw [mw_up_nj (by decide), mw_up_at]
  have a1 : partA I b (b + 3) 1 = I (b + 1) 1 := by
    unfold partA
    rw [mw_up_at, mw_up_ne (by omega)]
  have h := partB_eq (b := b) (partA I b)
  rw [fr_partA (by omega), fr_partA (by omega), a0, a1] at h
  unfold partsI
  rw [partC_eq, fr_partB (by omega), fr_partA (by omega)]
  unfold pP
  rw [← h]
  rfl
end
theorem sub_le0 {T w : Nat} (hT : T < 2 ^ 30) (hw : w < 2 ^ 30) : nI T - nI w ≤ 0 ↔ T ≤ w := by
  rw [Int32.le_iff_toInt_le, Int32.toInt_sub, nI_toInt (by omega), nI_toInt (by omega), show (0 : Int32).toInt = 0 from rfl]
  have h : ((T : Int) - w).bmod (2 ^ 32) = (T : Int) - w := by
    rw [Int.bmod_def]
    omega
  rw [h]
  omega
theorem pM_sum {a0 a1 mn m o : Int32} {a x y : Nat} (ha : a ≤ 20) (hx : x ≤ 30) (hy : y ≤ 30) (e1 : mn = nI a) (e2 : m = nI x) (e3 : o = nI y) : ∃ T, T ≤ 60 ∧ (pM a0 a1 mn m o).1 + (pM a0 a1 mn m o).2 = nI T := by
  unfold pM
  by_cases h : mn - m - o ≤ 0
  · rw [if_pos h]
    exact ⟨x + y, by omega, by rw [e2, e3]; exact nI_add x y⟩
  · rw [if_neg h]
    split
    · refine ⟨a, by omega, ?_⟩
      show m + (mn - m - o) + o = nI a
      rw [← e1]
      grind
    · refine ⟨a, by omega, ?_⟩
      show m + (o + (mn - m - o)) = nI a
      rw [← e1]
      grind
theorem pC_sum {a0 a1 v w : Int32} {T W : Nat} (hT : T ≤ 60) (hW : W ≤ 20000) (e1 : v + w = nI T) (e2 : a0 + a1 = nI W) : (pC a0 a1 v w (v + w - (a0 + a1))).1 + (pC a0 a1 v w (v + w - (a0 + a1))).2 = nI (if T ≤ W then T else W) := by
  unfold pC
  by_cases h : T ≤ W
  · rw [if_pos (by rw [e1, e2]; exact (sub_le0 (by omega) (by omega)).mpr h), if_pos h]
    exact e1
  · rw [if_neg (by rw [e1, e2]; exact fun q => h ((sub_le0 (by omega) (by omega)).mp q)), if_neg h, ← e2]
    split
    · generalize (if w < v + w - (a0 + a1) then w else v + w - (a0 + a1)) = c
      show v - (v + w - (a0 + a1) - c) + (w - c) = a0 + a1
      grind
    · generalize (if v < v + w - (a0 + a1) then v else v + w - (a0 + a1)) = c
      show v - c + (w - (v + w - (a0 + a1) - c)) = a0 + a1
      grind
theorem pP_sum {a0 a1 mn m o : Int32} {a x y W : Nat} (ha : a ≤ 20) (hx : x ≤ 30) (hy : y ≤ 30) (hW : W ≤ 20000) (e1 : mn = nI a) (e2 : m = nI x) (e3 : o = nI y) (e4 : a0 + a1 = nI W) : ∃ T, T ≤ 60 ∧ T ≤ W ∧ (pP a0 a1 mn m o).1 + (pP a0 a1 mn m o).2 = nI T := by
  obtain ⟨T, hT, h⟩ := pM_sum (a0 := a0) (a1 := a1) ha hx hy e1 e2 e3
  refine ⟨if T ≤ W then T else W, by split <;> omega, by split <;> omega, ?_⟩
  exact pC_sum hT hW h e4
