def filledV (I : mw_I) (p : Nat) : Int32 := I 49 (2 * p) + I 49 (2 * p + 1)
def richerN (I : mw_I) (p : Nat) : Nat := if I 49 (2 * p + 1) ≤ I 49 (2 * p) then 0 else 1
theorem richerN_lt (I : mw_I) (p : Nat) : richerN I p < 2 := by unfold richerN; split <;> omega
def mixedG (I : mw_I) (p : Nat) (f : Int32) (k : Nat) (z : Int32) : Int32 := if f < nI (k / 9) + nI (k % 9) then z else if I 48 (18 * p + k / 9) + I 48 (18 * p + 9 + k % 9) ≤ z then z else I 48 (18 * p + k / 9) + I 48 (18 * p + 9 + k % 9)
def mixedV (I : mw_I) (p : Nat) (f : Int32) : Int32 := lpN (mixedG I p f) 81 0
def sendsI (I : mw_I) (p o : Nat) (a : Int32) (h t : Nat) : mw_I := if p = 2 then mw_up I 52 o (I 52 o + a) else mw_up I 50 (210 * (2 * p + 2 + o) + h + t) (I 50 (210 * (2 * p + 2 + o) + h + t) + a)
theorem fr_snd {I : mw_I} {p o h t a : Nat} {x : Int32} (h1 : a ≠ 50) (h2 : a ≠ 52) : sendsI I p o x h t a = I a := by
  unfold sendsI
  split
  · exact mw_up_ne h2
  · exact mw_up_ne h1
def mlendI (I : mw_I) (p o : Nat) (a : Int32) : mw_I :=
  let I1 := mw_up I 49 (2 * p + o) (I 49 (2 * p + o) - a)
  let I2 := mw_up I1 49 (2 * p + 1 - o) (I1 49 (2 * p + 1 - o) + a)
  let I3 := mw_up I2 53 o (I2 53 o + a)
  mw_up I3 53 (1 - o) (I3 53 (1 - o) - a)
def travV (I : mw_I) (p o n : Nat) : Int32 := lpN (fun k z => z + I 50 (210 * (2 * p + o) + k)) n 0
def wk1 (p h o : Nat) (J : mw_I) : mw_I := mw_up (mw_up J 49 (2 * p + o) (J 49 (2 * p + o) + J 50 (210 * (2 * p + o) + h))) 50 (210 * (2 * p + o) + h) 0
def wkA (I : mw_I) (p h : Nat) : mw_I := lpN (wk1 p h) 2 I
def wkB (J : mw_I) (p : Nat) : mw_I :=
  let f := J 44 p * J 45 p / 100
  let J1 := mw_up J 49 (2 * p) (J 49 (2 * p) + f)
  let J2 := mw_up J1 49 (2 * p + 1) (J1 49 (2 * p + 1) + (J1 44 p - f))
  let J3 := mw_up J2 51 0 (J2 51 0 + f)
  mw_up J3 51 1 (J3 51 1 + (J3 44 p - f))
def headV (J : mw_I) (p : Nat) : Int32 := J 42 p + filledV J p / 5
def lacksV (J : mw_I) (p : Nat) : Int32 := J 46 p - J 47 (2 * p) - J 47 (2 * p + 1)
def mineV (J : mw_I) (p : Nat) : Int32 := J 47 (2 * p) + (if lacksV J p ≤ 0 then 0 else if ¬ nI (richerN J p) = 0 then 0 else lacksV J p)
def otherV (J : mw_I) (p : Nat) : Int32 := J 47 (2 * p + 1) + (if lacksV J p ≤ 0 then 0 else if ¬ nI (richerN J p) = 1 then 0 else lacksV J p)
def cut2V (v w c more : Int32) (first : Bool) : Int32 × Int32 := if first then (v - (if more ≤ c then more else c), w - (more - (if more ≤ c then more else c))) else (v - (more - (if more ≤ c then more else c)), w - (if more ≤ c then more else c))
def cutV (J : mw_I) (p : Nat) (v w : Int32) : Int32 × Int32 := if v + w - filledV J p ≤ 0 then (v, w) else if J 49 (2 * p + 1) - w ≤ J 49 (2 * p) - v then cut2V v w w (v + w - filledV J p) false else cut2V v w v (v + w - filledV J p) true
def wkP (J : mw_I) (p h t : Nat) (v w hd : Int32) : mw_I :=
  let J1 := mw_up J 49 (2 * p) (J 49 (2 * p) - v)
  let J2 := mw_up J1 49 (2 * p + 1) (J1 49 (2 * p + 1) - w)
  let J3 := sendsI J2 p 0 v h t
  let J4 := sendsI J3 p 1 w h t
  let J5 := mw_up J4 55 p (J4 55 p + (if J4 46 p ≤ v + w then 0 else 1))
  let J6 := mw_up J5 56 p (if 16 ≤ v + w then 16 else v + w)
  mw_up J6 57 p (J6 57 p + mixedV J6 p (J6 56 p) * hd / 10)
def wkS (J : mw_I) (p h t : Nat) : mw_I :=
  let q := filledV J p - J 41 p
  if q ≤ 0 then J else
  let J1 := mw_up J 49 (2 * p + richerN J p) (J 49 (2 * p + richerN J p) - q)
  let J2 := mw_up J1 54 p (J1 54 p + q)
  sendsI J2 p (richerN J p) q h t
def wkE (J : mw_I) (p h t : Nat) : mw_I := wkS (wkP J p h t (cutV J p (mineV J p) (otherV J p)).1 (cutV J p (mineV J p) (otherV J p)).2 (headV J p)) p h t
def worksI (I : mw_I) (p h t : Nat) : mw_I := wkE (wkB (wkA I p h) p) p h t
theorem fr_wkA {I : mw_I} {p h a : Nat} (h1 : a ≠ 49) (h2 : a ≠ 50) (n : Nat) : lpN (wk1 p h) n I a = I a := lpN_inv (P := fun (J : mw_I) => J a = I a) n (fun _ _ _ hz => ((mw_up_ne h2).trans (mw_up_ne h1)).trans hz) rfl
theorem fr_wkB {I : mw_I} {p a : Nat} (h1 : a ≠ 49) (h2 : a ≠ 51) : wkB I p a = I a := by
  unfold wkB
  rw [mw_up_ne h2, mw_up_ne h2, mw_up_ne h1, mw_up_ne h1]
theorem fr_wkP {I : mw_I} {p h t a : Nat} {v w z : Int32} (h1 : a ≠ 49) (h2 : a ≠ 50) (h3 : a ≠ 52) (h4 : a ≠ 55) (h5 : a ≠ 56) (h6 : a ≠ 57) : wkP I p h t v w z a = I a := by
  unfold wkP
  rw [mw_up_ne h6, mw_up_ne h5, mw_up_ne h4, fr_snd h2 h3, fr_snd h2 h3, mw_up_ne h1, mw_up_ne h1]
theorem fr_wkS {I : mw_I} {p h t a : Nat} (h1 : a ≠ 49) (h2 : a ≠ 50) (h3 : a ≠ 52) (h4 : a ≠ 54) : wkS I p h t a = I a := by
  unfold wkS
  dsimp only
  split
  · rfl
  · rw [fr_snd h2 h3, mw_up_ne h4, mw_up_ne h1]
theorem fr_works {I : mw_I} {p h t a : Nat} (h1 : a ≠ 49) (h2 : a ≠ 50) (h3 : a ≠ 52) (h4 : a ≠ 54) (h5 : a ≠ 55) (h6 : a ≠ 56) (h7 : a ≠ 57) (h8 : a ≠ 51) : worksI I p h t a = I a := by
  unfold worksI wkE wkA
  rw [fr_wkS h1 h2 h3 h4, fr_wkP h1 h2 h3 h5 h6 h7, fr_wkB h1 h8, fr_wkA h1 h2]
def mhourI (tt : Nat → Nat) (h : Nat) (J : mw_I) : mw_I :=
  let J1 := lpN (fun p J => worksI J p h (tt p)) 3 J
  mw_up J1 40 10 (J1 40 10 + 1)
def mrunI (tt : Nat → Nat) (h q : Nat) (I : mw_I) : mw_I := lpN (fun k J => mhourI tt (h + k) J) q (mw_up I 40 19 0)
theorem mruns_f {I : mw_I} {tt : Nat → Nat} {h n a : Nat} (h0 : a < 47) : lpN (fun p J => worksI J p h (tt p)) n I a = I a := lpN_inv (P := fun (J : mw_I) => J a = I a) n (fun _ _ _ hz => (fr_works (by omega) (by omega) (by omega) (by omega) (by omega) (by omega) (by omega) (by omega)).trans hz) rfl
theorem mhours_f {I : mw_I} {tt : Nat → Nat} {h n a : Nat} (h0 : a < 47) (h1 : a ≠ 40) : lpN (fun k J => mhourI tt (h + k) J) n I a = I a := lpN_inv (P := fun (J : mw_I) => J a = I a) n (fun _ _ z hz => by
  show mw_up _ 40 10 _ a = _
  rw [mw_up_ne h1, mruns_f h0]
  exact hz) rfl
theorem mhours_h {I : mw_I} {tt : Nat → Nat} {h : Nat} (hH : I 40 10 = nI h) : ∀ n : Nat, lpN (fun k J => mhourI tt (h + k) J) n I 40 10 = nI (h + n)
  | 0 => hH
  | n + 1 => by
    rw [lpN_succ, mhourI, mw_up_at, mruns_f (by decide), mhours_h hH n, nI_1]
    rfl
def grV (v : Int32) : Int32 := if 16 ≤ v / 4 * 4 then 16 else v / 4 * 4
def mayV (I : mw_I) (r v : Int32) : Int32 := if v < r then 0 else if I 46 0 ≤ r then 1 else if I 46 0 ≤ grV v then 0 else 1
theorem may_le {I : mw_I} {a b : Nat} (ha : a < 2 ^ 31) (hb : b < 2 ^ 31) (h : ¬ mayV I (nI a) (nI b) = 0) : a ≤ b := by
  by_cases hq : b < a
  · exact absurd (by rw [mayV, if_pos (nI_lt hq ha)]) h
  · omega
def comesV (I : mw_I) (it lv m cp : Nat) : Int32 := mixedV I 0 (nI it) * (I 42 0 + nI (lv / 5)) / 10 + I 58 (260 * m + (if cp ≤ lv - it then cp else lv - it))
def lmF (I : mw_I) (cp lv m : Nat) (j : Nat) (z : Int32) : Int32 := if mayV I (nI (4 * j)) (nI lv) = 0 then (if 0 ≤ z then z else 0) else (if comesV I (4 * j) lv m cp ≤ z then z else comesV I (4 * j) lv m cp)
def lmV (I : mw_I) (cp lv m : Nat) : Int32 := lpN (lmF I cp lv m) 5 0
def laRow (cp inf m : Nat) (J : mw_I) : mw_I := lpN (fun c J => mw_up J 58 (260 * (m + 1) + c) (lmV J cp (c + inf) m)) 201 J
def la0 (I : mw_I) : mw_I := lpN (fun k J => mw_up J 58 k 0) 260 I
def laysI (cp inf n : Nat) (I : mw_I) : mw_I := lpN (fun m J => laRow cp inf m J) n (la0 I)
theorem fr_la0 {I : mw_I} {a n : Nat} (h : a ≠ 58) : lpN (fun k J => mw_up J 58 k 0) n I a = I a := lpN_inv (P := fun (J : mw_I) => J a = I a) n (fun _ _ _ hz => (mw_up_ne h).trans hz) rfl
theorem fr_laR {I : mw_I} {cp inf m a n : Nat} (h : a ≠ 58) : lpN (fun c J => mw_up J 58 (260 * (m + 1) + c) (lmV J cp (c + inf) m)) n I a = I a := lpN_inv (P := fun (J : mw_I) => J a = I a) n (fun _ _ _ hz => (mw_up_ne h).trans hz) rfl
theorem fr_laN {I : mw_I} {cp inf a n : Nat} (h : a ≠ 58) : lpN (fun m J => laRow cp inf m J) n I a = I a := lpN_inv (P := fun (J : mw_I) => J a = I a) n (fun _ _ _ hz => (fr_laR h).trans hz) rfl
theorem fr_lays {I : mw_I} {cp inf n a : Nat} (h : a ≠ 58) : laysI cp inf n I a = I a := (fr_laN h).trans (fr_la0 h)
theorem mw_n10 : (10 : Int32) = nI 10 := rfl
def greI (cp inf m : Nat) (I : mw_I) : mw_I := laysI cp inf (m + 1) (mw_up I 40 19 0)
theorem fr_gre {I : mw_I} {cp inf m a : Nat} (h1 : a ≠ 58) (h2 : a ≠ 40) : greI cp inf m I a = I a := (fr_lays h1).trans (mw_up_ne h2)
theorem fil_gre {I : mw_I} {cp inf m p : Nat} : filledV (greI cp inf m I) p = filledV I p := by
  unfold filledV
  rw [fr_gre (by decide) (by decide)]
def fndF (I : mw_I) (cp lv m : Nat) (mx : Int32) (j : Nat) (z : Int32) : Int32 := if mayV I (nI (4 * j)) (nI lv) = 0 then z else if comesV I (4 * j) lv m cp = mx then nI (4 * j) else z
def fndV (I : mw_I) (cp lv m : Nat) (mx : Int32) : Nat → Int32 → Int32
  | 0, z => z
  | n + 1, z => fndV I cp lv m mx n (fndF I cp lv m mx n z)
