/-! a plant's hour: what each cell holds behind it, on both sides -/
section
variable {I : mw_I} {b h o : Nat}
theorem rv_acc (hb : 7 ≤ b) : recvI I b h o (b + 2) o = I (b + 2) o + (I (b + 5 + o) (h % 6) + inflowV I b o) := by
  unfold recvI
  rw [mw_up_ne (by omega), mw_up_at]
theorem rv_accn (hb : 7 ≤ b) {o2 : Nat} (h2 : o2 ≠ o) : recvI I b h o (b + 2) o2 = I (b + 2) o2 := by
  unfold recvI
  rw [mw_up_ne (by omega), mw_up_nj h2, mw_up_ne (by omega)]
theorem rv_2 (hb : 7 ≤ b) : recvI I b h o 2 o = I 2 o + inflowV I b o := by
  unfold recvI
  rw [mw_up_at, mw_up_ne (by omega), mw_up_ne (by omega)]
theorem rv_2n {o2 : Nat} (hb : 7 ≤ b) (h2 : o2 ≠ o) : recvI I b h o 2 o2 = I 2 o2 := by
  unfold recvI
  rw [mw_up_nj h2, mw_up_ne (by omega), mw_up_ne (by omega)]
theorem rv_sl (hb : 7 ≤ b) : recvI I b h o (b + 5 + o) (h % 6) = 0 := by
  unfold recvI
  rw [mw_up_ne (by omega), mw_up_ne (by omega), mw_up_at]
theorem rv_sln (hb : 7 ≤ b) {j : Nat} (hj : j ≠ h % 6) : recvI I b h o (b + 5 + o) j = I (b + 5 + o) j := by
  unfold recvI
  rw [mw_up_ne (by omega), mw_up_ne (by omega), mw_up_nj hj]
theorem rv_in (hb : 7 ≤ b) (o2 : Nat) : inflowV (recvI I b h o) b o2 = inflowV I b o2 := by
  unfold inflowV
  rw [fr_recv (by omega) (by omega) (by omega)]
def rcvI (I : mw_I) (b h : Nat) : mw_I := lpN (fun o J => recvI J b h o) 2 I
theorem rc_acc (hb : 7 ≤ b) (ho : o < 2) : rcvI I b h (b + 2) o = I (b + 2) o + (I (b + 5 + o) (h % 6) + inflowV I b o) := by
  show recvI (recvI I b h 0) b h 1 (b + 2) o = _
  rcases (by omega : o = 0 ∨ o = 1) with rfl | rfl
  · rw [rv_accn hb (by decide), rv_acc hb]
  · rw [rv_acc hb, rv_accn hb (by decide), fr_recv (by omega) (by omega) (by omega), rv_in hb]
theorem rc_2 (hb : 7 ≤ b) (ho : o < 2) : rcvI I b h 2 o = I 2 o + inflowV I b o := by
  show recvI (recvI I b h 0) b h 1 2 o = _
  rcases (by omega : o = 0 ∨ o = 1) with rfl | rfl
  · rw [rv_2n hb (by decide), rv_2 hb]
  · rw [rv_2 hb, rv_2n hb (by decide), rv_in hb]
theorem rc_sl (hb : 7 ≤ b) (ho : o < 2) : rcvI I b h (b + 5 + o) (h % 6) = 0 := by
  show recvI (recvI I b h 0) b h 1 (b + 5 + o) (h % 6) = _
  rcases (by omega : o = 0 ∨ o = 1) with rfl | rfl
  · rw [fr_recv (by omega) (by omega) (by omega), rv_sl hb]
  · rw [rv_sl hb]
theorem rc_sln (hb : 7 ≤ b) (ho : o < 2) {j : Nat} (hj : j ≠ h % 6) : rcvI I b h (b + 5 + o) j = I (b + 5 + o) j := by
  show recvI (recvI I b h 0) b h 1 (b + 5 + o) j = _
  rcases (by omega : o = 0 ∨ o = 1) with rfl | rfl
  · rw [fr_recv (by omega) (by omega) (by omega), rv_sln hb hj]
  · rw [rv_sln hb hj, fr_recv (by omega) (by omega) (by omega)]
end
section
variable {M : mw_I} {p h o : Nat}
theorem wk1_acc : wk1 p h o M 49 (2 * p + o) = M 49 (2 * p + o) + M 50 (210 * (2 * p + o) + h) := by
  unfold wk1
  rw [mw_up_ne (by decide), mw_up_at]
theorem wk1_accn {k : Nat} (hk : k ≠ 2 * p + o) : wk1 p h o M 49 k = M 49 k := by
  unfold wk1
  rw [mw_up_ne (by decide), mw_up_nj hk]
theorem wk1_u : wk1 p h o M 50 (210 * (2 * p + o) + h) = 0 := by
  unfold wk1
  rw [mw_up_at]
theorem wk1_un {k : Nat} (hk : k ≠ 210 * (2 * p + o) + h) : wk1 p h o M 50 k = M 50 k := by
  unfold wk1
  rw [mw_up_nj hk, mw_up_ne (by decide)]
theorem wA_acc (ho : o < 2) : wkA M p h 49 (2 * p + o) = M 49 (2 * p + o) + M 50 (210 * (2 * p + o) + h) := by
  show wk1 p h 1 (wk1 p h 0 M) 49 (2 * p + o) = _
  rcases (by omega : o = 0 ∨ o = 1) with rfl | rfl
  · rw [wk1_accn (by omega), wk1_acc]
  · rw [wk1_acc, wk1_accn (by omega), wk1_un (by omega)]
theorem wA_accn {k : Nat} (h0 : k ≠ 2 * p) (h1 : k ≠ 2 * p + 1) : wkA M p h 49 k = M 49 k := by
  show wk1 p h 1 (wk1 p h 0 M) 49 k = _
  rw [wk1_accn h1, wk1_accn (by omega)]
theorem wA_u (ho : o < 2) : wkA M p h 50 (210 * (2 * p + o) + h) = 0 := by
  show wk1 p h 1 (wk1 p h 0 M) 50 (210 * (2 * p + o) + h) = _
  rcases (by omega : o = 0 ∨ o = 1) with rfl | rfl
  · rw [wk1_un (by omega), wk1_u]
  · rw [wk1_u]
theorem wA_un {k : Nat} (h0 : k ≠ 210 * (2 * p + 0) + h) (h1 : k ≠ 210 * (2 * p + 1) + h) : wkA M p h 50 k = M 50 k := by
  show wk1 p h 1 (wk1 p h 0 M) 50 k = _
  rw [wk1_un h1, wk1_un h0]
def mInf (M : mw_I) (p o : Nat) : Int32 := if o = 0 then M 44 p * M 45 p / 100 else M 44 p - M 44 p * M 45 p / 100
theorem wB_acc (ho : o < 2) : wkB M p 49 (2 * p + o) = M 49 (2 * p + o) + mInf M p o := by
  unfold wkB mInf
  rw [mw_up_ne (by decide), mw_up_ne (by decide)]
  rcases (by omega : o = 0 ∨ o = 1) with rfl | rfl
  · rw [mw_up_nj (by omega), if_pos rfl]
    exact mw_up_at
  · rw [mw_up_at, mw_up_nj (by omega), if_neg (by decide), mw_up_ne (a := 44) (by decide)]
theorem wB_accn {k : Nat} (h0 : k ≠ 2 * p) (h1 : k ≠ 2 * p + 1) : wkB M p 49 k = M 49 k := by
  unfold wkB
  rw [mw_up_ne (by decide), mw_up_ne (by decide), mw_up_nj h1, mw_up_nj h0]
theorem wB_51 (ho : o < 2) : wkB M p 51 o = M 51 o + mInf M p o := by
  unfold wkB mInf
  rcases (by omega : o = 0 ∨ o = 1) with rfl | rfl
  · rw [mw_up_nj (by omega), mw_up_at, mw_up_ne (a := 51) (by decide), mw_up_ne (a := 51) (by decide), if_pos rfl]
  · rw [mw_up_at, mw_up_nj (by omega), mw_up_ne (a := 51) (by decide), mw_up_ne (a := 51) (by decide), if_neg (by decide), mw_up_ne (a := 44) (by decide), mw_up_ne (a := 44) (by decide), mw_up_ne (a := 44) (by decide)]
end
/-! letGo and spillOver -/
section
variable {J : mw_I} {b : Nat} {v p : Int32}
theorem gB_3 : goB J b v p (b + 3) = J (b + 3) := by
  unfold goB
  rw [mw_up_ne (by omega), mw_up_ne (by omega), mw_up_ne (by omega), mw_up_ne (by omega)]
theorem gB_20 : goB J b v p (b + 2) 0 = J (b + 2) 0 - J (b + 3) 0 := by
  unfold goB
  rw [mw_up_nj (by decide), mw_up_at, mw_up_ne (a := b + 2) (by omega), mw_up_ne (a := b + 2) (by omega), mw_up_ne (a := b + 3) (by omega), mw_up_ne (a := b + 3) (by omega)]
theorem gB_21 : goB J b v p (b + 2) 1 = J (b + 2) 1 - J (b + 3) 1 := by
  unfold goB
  rw [mw_up_at, mw_up_nj (show (1 : Nat) ≠ 0 by decide), mw_up_ne (a := b + 2) (by omega), mw_up_ne (a := b + 2) (by omega), mw_up_ne (a := b + 3) (by omega), mw_up_ne (a := b + 3) (by omega), mw_up_ne (a := b + 3) (by omega)]
theorem gB_13 : goB J b v p b 13 = J b 13 := by
  unfold goB
  rw [mw_up_ne (by omega), mw_up_ne (by omega), mw_up_nj (by decide), mw_up_nj (by decide)]
theorem gB_14 : goB J b v p b 14 = if 16 < p then 16 else p := by
  unfold goB
  rw [mw_up_ne (by omega), mw_up_ne (by omega), mw_up_nj (by decide), mw_up_at]
theorem gB_15 : goB J b v p b 15 = J b 15 + energyV J b v (if 16 < p then 16 else p) := by
  unfold goB
  rw [mw_up_ne (by omega), mw_up_ne (by omega), mw_up_at, mw_up_nj (by decide), mw_up_at]
  unfold energyV mixForV
  rw [mw_up_ne (a := b + 10) (by omega), mw_up_nj (show (1 : Nat) ≠ 14 by decide)]
end
section
variable {I : mw_I} {b : Nat}
def cP (I : mw_I) (b : Nat) : Int32 × Int32 := pP (I (b + 2) 0) (I (b + 2) 1) (I b 3) (I (b + 1) 0) (I (b + 1) 1)
theorem cP0 : partsI I b (waterV I b) (b + 3) 0 = (cP I b).1 := congrArg Prod.fst (cPP (b := b) I)
theorem cP1 : partsI I b (waterV I b) (b + 3) 1 = (cP I b).2 := congrArg Prod.snd (cPP (b := b) I)
theorem lg_30 : letGoI I b (b + 3) 0 = (cP I b).1 := by
  unfold letGoI goC
  rw [gB_3, fr_goA (by omega), cP0]
theorem lg_31 : letGoI I b (b + 3) 1 = (cP I b).2 := by
  unfold letGoI goC
  rw [gB_3, fr_goA (by omega), cP1]
theorem lg_20 : letGoI I b (b + 2) 0 = I (b + 2) 0 - (cP I b).1 := by
  unfold letGoI goC
  rw [gB_20, fr_goA (by omega), fr_goA (by omega), cP0, fr_parts (by omega)]
theorem lg_21 : letGoI I b (b + 2) 1 = I (b + 2) 1 - (cP I b).2 := by
  unfold letGoI goC
  rw [gB_21, fr_goA (by omega), fr_goA (by omega), cP1, fr_parts (by omega)]
theorem lg_13 : letGoI I b b 13 = I b 13 + (if I b 3 ≤ (cP I b).1 + (cP I b).2 then 0 else 1) := by
  unfold letGoI goC
  rw [gB_13]
  unfold goA
  rw [cP0, cP1, fr_parts (by omega)]
  by_cases h : I b 3 ≤ (cP I b).1 + (cP I b).2
  · rw [if_pos h, if_pos h, fr_parts (by omega), Int32.add_zero]
  · rw [if_neg h, if_neg h, mw_up_at]
theorem lg_14 : letGoI I b b 14 = if 16 < (cP I b).1 + (cP I b).2 then 16 else (cP I b).1 + (cP I b).2 := by
  unfold letGoI goC
  rw [gB_14, cP0, cP1]
theorem lg_15 : letGoI I b b 15 = I b 15 + energyV I b (waterV I b) (if 16 < (cP I b).1 + (cP I b).2 then 16 else (cP I b).1 + (cP I b).2) := by
  unfold letGoI goC
  rw [gB_15, cP0, cP1, fr_goAj (by decide), fr_parts (by omega)]
  unfold energyV mixForV
  rw [fr_goA (by omega), fr_goAj (by decide), fr_parts (by omega), fr_parts (by omega)]
end
