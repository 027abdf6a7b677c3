/-! spilling and sending: what each cell holds behind it, on both sides -/
section
variable {G : mw_I} {b o : Nat}
def sq (G : mw_I) (b o : Nat) : Int32 := if waterV G b - G b 0 ≤ 0 then 0 else if o = moreV G b then waterV G b - G b 0 else 0
theorem sp_2 : spillI G b (b + 2) o = G (b + 2) o - sq G b o := by
  unfold spillI sq
  dsimp only
  by_cases h : waterV G b - G b 0 ≤ 0
  · rw [if_pos h, if_pos h, Int32.sub_zero]
  · rw [if_neg h, if_neg h, mw_up_ne (by omega), mw_up_ne (by omega)]
    by_cases e : o = moreV G b
    · rw [if_pos e, ← e, mw_up_at]
    · rw [if_neg e, mw_up_nj e, Int32.sub_zero]
theorem sp_3 : spillI G b (b + 3) o = G (b + 3) o + sq G b o := by
  unfold spillI sq
  dsimp only
  by_cases h : waterV G b - G b 0 ≤ 0
  · rw [if_pos h, if_pos h, Int32.add_zero]
  · rw [if_neg h, if_neg h, mw_up_ne (by omega)]
    by_cases e : o = moreV G b
    · rw [if_pos e, ← e, mw_up_at, mw_up_ne (by omega)]
    · rw [if_neg e, mw_up_nj e, mw_up_ne (by omega), Int32.add_zero]
theorem sp_12 : spillI G b b 12 = G b 12 + (if waterV G b - G b 0 ≤ 0 then 0 else waterV G b - G b 0) := by
  unfold spillI
  dsimp only
  by_cases h : waterV G b - G b 0 ≤ 0
  · rw [if_pos h, if_pos h, Int32.add_zero]
  · rw [if_neg h, if_neg h, mw_up_at, mw_up_ne (by omega), mw_up_ne (by omega)]
end
section
variable {S : mw_I} {i h t o : Nat}
def sndI (S : mw_I) (i h t : Nat) : mw_I := lpN (fun o J => sendI J i h t o) 2 S
theorem se_sl (hi : i + 1 < 3) : sendI S i h t o (7 + 11 * (i + 1) + 5 + o) ((h + t) % 6) = S (7 + 11 * (i + 1) + 5 + o) ((h + t) % 6) + S (7 + 11 * i + 3) o := by
  unfold sendI
  rw [if_pos hi, mw_up_at]
theorem se_sln (hi : i + 1 < 3) {j : Nat} (hj : j ≠ (h + t) % 6) : sendI S i h t o (7 + 11 * (i + 1) + 5 + o) j = S (7 + 11 * (i + 1) + 5 + o) j := by
  unfold sendI
  rw [if_pos hi, mw_up_nj hj]
theorem se_3 (hi : ¬ i + 1 < 3) : sendI S i h t o 3 o = S 3 o + S (7 + 11 * i + 3) o := by
  unfold sendI
  rw [if_neg hi, mw_up_at]
theorem se_3n (hi : ¬ i + 1 < 3) {o2 : Nat} (h2 : o2 ≠ o) : sendI S i h t o 3 o2 = S 3 o2 := by
  unfold sendI
  rw [if_neg hi, mw_up_nj h2]
theorem se_3m (hi : i + 1 < 3) : sendI S i h t o 3 = S 3 := by
  unfold sendI
  rw [if_pos hi, mw_up_ne (by omega)]
theorem se_ne (hi : ¬ i + 1 < 3) {a : Nat} (ha : a ≠ 3) : sendI S i h t o a = S a := by
  unfold sendI
  rw [if_neg hi, mw_up_ne ha]
theorem sn_sl (hi : i + 1 < 3) (ho : o < 2) : sndI S i h t (7 + 11 * (i + 1) + 5 + o) ((h + t) % 6) = S (7 + 11 * (i + 1) + 5 + o) ((h + t) % 6) + S (7 + 11 * i + 3) o := by
  show sendI (sendI S i h t 0) i h t 1 (7 + 11 * (i + 1) + 5 + o) ((h + t) % 6) = _
  rcases (by omega : o = 0 ∨ o = 1) with rfl | rfl
  · rw [fr_send (by omega) (by omega), se_sl hi]
  · rw [se_sl hi, fr_send (by omega) (by omega), fr_send (by omega) (by omega)]
theorem sn_sln (hi : i + 1 < 3) (ho : o < 2) {j : Nat} (hj : j ≠ (h + t) % 6) : sndI S i h t (7 + 11 * (i + 1) + 5 + o) j = S (7 + 11 * (i + 1) + 5 + o) j := by
  show sendI (sendI S i h t 0) i h t 1 (7 + 11 * (i + 1) + 5 + o) j = _
  rcases (by omega : o = 0 ∨ o = 1) with rfl | rfl
  · rw [fr_send (by omega) (by omega), se_sln hi hj]
  · rw [se_sln hi hj, fr_send (by omega) (by omega)]
theorem sn_3 (hi : ¬ i + 1 < 3) (ho : o < 2) : sndI S i h t 3 o = S 3 o + S (7 + 11 * i + 3) o := by
  show sendI (sendI S i h t 0) i h t 1 3 o = _
  rcases (by omega : o = 0 ∨ o = 1) with rfl | rfl
  · rw [se_3n hi (by decide), se_3 hi]
  · rw [se_3 hi, se_3n hi (by decide), se_ne hi (by omega)]
theorem sn_3m (hi : i + 1 < 3) : sndI S i h t 3 = S 3 := by
  show sendI (sendI S i h t 0) i h t 1 3 = _
  rw [se_3m hi, se_3m hi]
theorem sn_ne (hi : ¬ i + 1 < 3) {a : Nat} (ha : a ≠ 3) : sndI S i h t a = S a := by
  show sendI (sendI S i h t 0) i h t 1 a = _
  rw [se_ne hi ha, se_ne hi ha]
end
section
variable {M : mw_I} {p o h t k : Nat} {x : Int32}
theorem ms_50 (hp : p ≠ 2) : sendsI M p o x h t 50 (210 * (2 * p + 2 + o) + h + t) = M 50 (210 * (2 * p + 2 + o) + h + t) + x := by
  unfold sendsI
  rw [if_neg hp, mw_up_at]
theorem ms_50n (hk : k ≠ 210 * (2 * p + 2 + o) + h + t) : sendsI M p o x h t 50 k = M 50 k := by
  unfold sendsI
  split
  · rw [mw_up_ne (by decide)]
  · rw [mw_up_nj hk]
theorem ms_502 (hp : p = 2) : sendsI M p o x h t 50 = M 50 := by
  unfold sendsI
  rw [if_pos hp, mw_up_ne (by decide)]
theorem ms_52 (hp : p = 2) : sendsI M p o x h t 52 o = M 52 o + x := by
  unfold sendsI
  rw [if_pos hp, mw_up_at]
theorem ms_52n {o2 : Nat} (h2 : o2 ≠ o) : sendsI M p o x h t 52 o2 = M 52 o2 := by
  unfold sendsI
  split
  · rw [mw_up_nj h2]
  · rw [mw_up_ne (by decide)]
theorem ms_52m (hp : p ≠ 2) : sendsI M p o x h t 52 = M 52 := by
  unfold sendsI
  rw [if_neg hp, mw_up_ne (by decide)]
end
section
variable {J : mw_I} {p h t o : Nat} {v w hd : Int32}
theorem wP_49 (ho : o < 2) : wkP J p h t v w hd 49 (2 * p + o) = J 49 (2 * p + o) - (if o = 0 then v else w) := by
  unfold wkP
  rw [mw_up_ne (by decide), mw_up_ne (by decide), mw_up_ne (by decide), fr_snd (by decide) (by decide), fr_snd (by decide) (by decide)]
  rcases (by omega : o = 0 ∨ o = 1) with rfl | rfl
  · rw [mw_up_nj (by omega), if_pos rfl]
    exact mw_up_at
  · rw [mw_up_at, mw_up_nj (by omega), if_neg (by decide)]
theorem wP_49n {k : Nat} (h0 : k ≠ 2 * p) (h1 : k ≠ 2 * p + 1) : wkP J p h t v w hd 49 k = J 49 k := by
  unfold wkP
  rw [mw_up_ne (by decide), mw_up_ne (by decide), mw_up_ne (by decide), fr_snd (by decide) (by decide), fr_snd (by decide) (by decide), mw_up_nj h1, mw_up_nj h0]
theorem wP_50 (hp : p ≠ 2) (ho : o < 2) : wkP J p h t v w hd 50 (210 * (2 * p + 2 + o) + h + t) = J 50 (210 * (2 * p + 2 + o) + h + t) + (if o = 0 then v else w) := by
  unfold wkP
  rw [mw_up_ne (by decide), mw_up_ne (by decide), mw_up_ne (by decide)]
  rcases (by omega : o = 0 ∨ o = 1) with rfl | rfl
  · rw [ms_50n (by omega), ms_50 hp, mw_up_ne (by decide), mw_up_ne (by decide), if_pos rfl]
  · rw [ms_50 hp, ms_50n (by omega), mw_up_ne (by decide), mw_up_ne (by decide), if_neg (by decide)]
theorem wP_50n {k : Nat} (h0 : k ≠ 210 * (2 * p + 2 + 0) + h + t) (h1 : k ≠ 210 * (2 * p + 2 + 1) + h + t) : wkP J p h t v w hd 50 k = J 50 k := by
  unfold wkP
  rw [mw_up_ne (by decide), mw_up_ne (by decide), mw_up_ne (by decide), ms_50n h1, ms_50n h0, mw_up_ne (by decide), mw_up_ne (by decide)]
theorem wP_502 (hp : p = 2) : wkP J p h t v w hd 50 = J 50 := by
  unfold wkP
  rw [mw_up_ne (by decide), mw_up_ne (by decide), mw_up_ne (by decide), ms_502 hp, ms_502 hp, mw_up_ne (by decide), mw_up_ne (by decide)]
theorem wP_52 (hp : p = 2) (ho : o < 2) : wkP J p h t v w hd 52 o = J 52 o + (if o = 0 then v else w) := by
  unfold wkP
  rw [mw_up_ne (by decide), mw_up_ne (by decide), mw_up_ne (by decide)]
  rcases (by omega : o = 0 ∨ o = 1) with rfl | rfl
  · rw [ms_52n (by omega), ms_52 hp, mw_up_ne (by decide), mw_up_ne (by decide), if_pos rfl]
  · rw [ms_52 hp, ms_52n (by omega), mw_up_ne (by decide), mw_up_ne (by decide), if_neg (by decide)]
theorem wP_52m (hp : p ≠ 2) : wkP J p h t v w hd 52 = J 52 := by
  unfold wkP
  rw [mw_up_ne (by decide), mw_up_ne (by decide), mw_up_ne (by decide), ms_52m hp, ms_52m hp, mw_up_ne (by decide), mw_up_ne (by decide)]
theorem wP_55 : wkP J p h t v w hd 55 p = J 55 p + (if J 46 p ≤ v + w then 0 else 1) := by
  unfold wkP
  rw [mw_up_ne (by decide), mw_up_ne (by decide), mw_up_at, fr_snd (a := 55) (by decide) (by decide), fr_snd (a := 55) (by decide) (by decide), mw_up_ne (a := 55) (by decide), mw_up_ne (a := 55) (by decide), fr_snd (a := 46) (by decide) (by decide), fr_snd (a := 46) (by decide) (by decide), mw_up_ne (a := 46) (by decide), mw_up_ne (a := 46) (by decide)]
theorem wP_55n {k : Nat} (hk : k ≠ p) : wkP J p h t v w hd 55 k = J 55 k := by
  unfold wkP
  rw [mw_up_ne (by decide), mw_up_ne (by decide), mw_up_nj hk, fr_snd (a := 55) (by decide) (by decide), fr_snd (a := 55) (by decide) (by decide), mw_up_ne (a := 55) (by decide), mw_up_ne (a := 55) (by decide)]
theorem wP_56 : wkP J p h t v w hd 56 p = if 16 ≤ v + w then 16 else v + w := by
  unfold wkP
  rw [mw_up_ne (by decide), mw_up_at]
theorem wP_56n {k : Nat} (hk : k ≠ p) : wkP J p h t v w hd 56 k = J 56 k := by
  unfold wkP
  rw [mw_up_ne (by decide), mw_up_nj hk, mw_up_ne (by decide), fr_snd (by decide) (by decide), fr_snd (by decide) (by decide), mw_up_ne (by decide), mw_up_ne (by decide)]
theorem wP_57 : wkP J p h t v w hd 57 p = J 57 p + mixedV J p (if 16 ≤ v + w then 16 else v + w) * hd / 10 := by
  unfold wkP
  rw [mw_up_at, mw_up_ne (a := 57) (by decide), mw_up_ne (a := 57) (by decide), fr_snd (a := 57) (by decide) (by decide), fr_snd (a := 57) (by decide) (by decide), mw_up_ne (a := 57) (by decide), mw_up_ne (a := 57) (by decide), mw_up_at, mixedV_eq (M := J) (by rw [mw_up_ne (by decide), mw_up_ne (by decide), fr_snd (by decide) (by decide), fr_snd (by decide) (by decide), mw_up_ne (by decide), mw_up_ne (by decide)])]
theorem wP_57n {k : Nat} (hk : k ≠ p) : wkP J p h t v w hd 57 k = J 57 k := by
  unfold wkP
  rw [mw_up_nj hk, mw_up_ne (by decide), mw_up_ne (by decide), fr_snd (by decide) (by decide), fr_snd (by decide) (by decide), mw_up_ne (by decide), mw_up_ne (by decide)]
end
section
variable {K : mw_I} {p h t o : Nat}
def mq (K : mw_I) (p o : Nat) : Int32 := if filledV K p - K 41 p ≤ 0 then 0 else if o = richerN K p then filledV K p - K 41 p else 0
theorem wS_49 (ho : o < 2) : wkS K p h t 49 (2 * p + o) = K 49 (2 * p + o) - mq K p o := by
  unfold wkS mq
  dsimp only
  by_cases g : filledV K p - K 41 p ≤ 0
  · rw [if_pos g, if_pos g, Int32.sub_zero]
  · rw [if_neg g, if_neg g, fr_snd (by decide) (by decide), mw_up_ne (by decide)]
    by_cases e : o = richerN K p
    · rw [if_pos e, ← e, mw_up_at]
    · rw [if_neg e, mw_up_nj (by omega), Int32.sub_zero]
theorem wS_49n {k : Nat} (h0 : k ≠ 2 * p) (h1 : k ≠ 2 * p + 1) : wkS K p h t 49 k = K 49 k := by
  unfold wkS
  dsimp only
  by_cases g : filledV K p - K 41 p ≤ 0
  · rw [if_pos g]
  · have := richerN_lt K p
    rw [if_neg g, fr_snd (by decide) (by decide), mw_up_ne (by decide), mw_up_nj (by omega)]
theorem wS_54 : wkS K p h t 54 p = K 54 p + (if filledV K p - K 41 p ≤ 0 then 0 else filledV K p - K 41 p) := by
  unfold wkS
  dsimp only
  by_cases g : filledV K p - K 41 p ≤ 0
  · rw [if_pos g, if_pos g, Int32.add_zero]
  · rw [if_neg g, if_neg g, fr_snd (by decide) (by decide), mw_up_at, mw_up_ne (by decide)]
theorem wS_54n {k : Nat} (hk : k ≠ p) : wkS K p h t 54 k = K 54 k := by
  unfold wkS
  dsimp only
  by_cases g : filledV K p - K 41 p ≤ 0
  · rw [if_pos g]
  · rw [if_neg g, fr_snd (by decide) (by decide), mw_up_nj hk, mw_up_ne (by decide)]
theorem wS_50 (hp : p ≠ 2) (ho : o < 2) : wkS K p h t 50 (210 * (2 * p + 2 + o) + h + t) = K 50 (210 * (2 * p + 2 + o) + h + t) + mq K p o := by
  unfold wkS mq
  dsimp only
  by_cases g : filledV K p - K 41 p ≤ 0
  · rw [if_pos g, if_pos g, Int32.add_zero]
  · have := richerN_lt K p
    rw [if_neg g, if_neg g]
    by_cases e : o = richerN K p
    · rw [if_pos e, ← e, ms_50 hp, mw_up_ne (by decide), mw_up_ne (by decide)]
    · rw [if_neg e, ms_50n (by omega), mw_up_ne (by decide), mw_up_ne (by decide), Int32.add_zero]
theorem wS_50n {k : Nat} (h0 : k ≠ 210 * (2 * p + 2 + 0) + h + t) (h1 : k ≠ 210 * (2 * p + 2 + 1) + h + t) : wkS K p h t 50 k = K 50 k := by
  unfold wkS
  dsimp only
  by_cases g : filledV K p - K 41 p ≤ 0
  · rw [if_pos g]
  · have := richerN_lt K p
    rw [if_neg g, ms_50n (by omega), mw_up_ne (by decide), mw_up_ne (by decide)]
theorem wS_502 (hp : p = 2) : wkS K p h t 50 = K 50 := by
  unfold wkS
  dsimp only
  by_cases g : filledV K p - K 41 p ≤ 0
  · rw [if_pos g]
  · rw [if_neg g, ms_502 hp, mw_up_ne (by decide), mw_up_ne (by decide)]
theorem wS_52 (hp : p = 2) (ho : o < 2) : wkS K p h t 52 o = K 52 o + mq K p o := by
  unfold wkS mq
  dsimp only
  by_cases g : filledV K p - K 41 p ≤ 0
  · rw [if_pos g, if_pos g, Int32.add_zero]
  · rw [if_neg g, if_neg g]
    by_cases e : o = richerN K p
    · rw [if_pos e, ← e, ms_52 hp, mw_up_ne (by decide), mw_up_ne (by decide)]
    · rw [if_neg e, ms_52n (by omega), mw_up_ne (by decide), mw_up_ne (by decide), Int32.add_zero]
theorem wS_52m (hp : p ≠ 2) : wkS K p h t 52 = K 52 := by
  unfold wkS
  dsimp only
  by_cases g : filledV K p - K 41 p ≤ 0
  · rw [if_pos g]
  · rw [if_neg g, ms_52m hp, mw_up_ne (by decide), mw_up_ne (by decide)]
end
