/-! WaterCascade: hours (by program: wip/whole/gen19.py) -/
theorem mw_up_nj {I : mw_I} {k j i : Nat} {x : Int32} (h : i ≠ j) : mw_up I k j x k i = I k i := by unfold mw_up upd; rw [if_pos rfl, if_neg h]
theorem mw_up_at {I : mw_I} {k j : Nat} {x : Int32} : mw_up I k j x k j = x := by unfold mw_up upd; rw [if_pos rfl, if_pos rfl]
theorem mw_up_ap (I : mw_I) (k j : Nat) (x : Int32) (a i : Nat) : mw_up I k j x a i = if a = k ∧ i = j then x else I a i := by
  unfold mw_up upd
  by_cases h1 : a = k
  · subst h1
    by_cases h2 : i = j
    · subst h2; simp
    · simp [h2]
  · simp [h1]
theorem lpN_inv {α : Type} {f : Nat → α → α} {P : α → Prop} {x : α} : ∀ n : Nat, (∀ k, k < n → ∀ z, P z → P (f k z)) → P x → P (lpN f n x)
  | 0, _, h => h
  | n + 1, hs, h => hs n (Nat.lt_succ_self n) _ (lpN_inv n (fun k hk => hs k (Nat.lt_succ_of_lt hk)) h)
theorem fr_cut {I : mw_I} {b a : Nat} {t : Int32} (h : a ≠ b + 3) : cutI I b t a = I a := by
  unfold cutI cutF
  split <;> simp only [mw_up_ne h]
theorem fr_partA {I : mw_I} {b a : Nat} (h : a ≠ b + 3) : partA I b a = I a := by
  unfold partA
  simp only [mw_up_ne h]
theorem fr_partB {I : mw_I} {b a : Nat} (h : a ≠ b + 3) : partB I b a = I a := by
  unfold partB
  split
  · rfl
  · rw [mw_up_ne h]
theorem fr_partC {I : mw_I} {b a : Nat} {v : Int32} (h : a ≠ b + 3) : partC I b v a = I a := by
  unfold partC
  split
  · rfl
  · exact fr_cut h
theorem fr_parts {I : mw_I} {b a : Nat} {v : Int32} (h : a ≠ b + 3) : partsI I b v a = I a := by
  unfold partsI
  rw [fr_partC h, fr_partB h, fr_partA h]
theorem fr_goA {I : mw_I} {b a : Nat} (h : a ≠ b) : goA I b a = I a := by
  unfold goA
  split
  · rfl
  · rw [mw_up_ne h]
theorem fr_goAj {I : mw_I} {b j : Nat} (h : j ≠ 13) : goA I b b j = I b j := by
  unfold goA
  split
  · rfl
  · rw [mw_up_nj h]
theorem fr_go {I : mw_I} {b a : Nat} (h : a ≠ b) (h2 : a ≠ b + 2) (h3 : a ≠ b + 3) : letGoI I b a = I a := by
  unfold letGoI goC goB
  simp only [mw_up_ne h2, mw_up_ne h]
  rw [fr_goA h, fr_parts h3]
theorem fr_goj {I : mw_I} {b j : Nat} (h : j < 13) : letGoI I b b j = I b j := by
  unfold letGoI goC goB
  simp only [mw_up_ne (show b ≠ b + 2 by omega), mw_up_nj (show j ≠ 14 by omega), mw_up_nj (show j ≠ 15 by omega)]
  rw [fr_goAj (by omega), fr_parts (by omega)]
theorem fr_spill {I : mw_I} {b a : Nat} (h : a ≠ b) (h2 : a ≠ b + 2) (h3 : a ≠ b + 3) : spillI I b a = I a := by
  unfold spillI
  dsimp only
  split
  · rfl
  · rw [mw_up_ne h, mw_up_ne h3, mw_up_ne h2]
theorem fr_spillj {I : mw_I} {b j : Nat} (h : j ≠ 12) : spillI I b b j = I b j := by
  unfold spillI
  dsimp only
  split
  · rfl
  · rw [mw_up_nj h, mw_up_ne (by omega), mw_up_ne (by omega)]
def recvI (I : mw_I) (b h o : Nat) : mw_I :=
  let q := inflowV I b o
  let J := mw_up (mw_up I (b + 5 + o) (h % 6) 0) (b + 2) o (I (b + 2) o + (I (b + 5 + o) (h % 6) + q))
  mw_up J 2 o (J 2 o + q)
def sendI (I : mw_I) (i h t o : Nat) : mw_I := if i + 1 < 3 then mw_up I (7 + 11 * (i + 1) + 5 + o) ((h + t) % 6) (I (7 + 11 * (i + 1) + 5 + o) ((h + t) % 6) + I (7 + 11 * i + 3) o) else mw_up I 3 o (I 3 o + I (7 + 11 * i + 3) o)
def runPlantI (I : mw_I) (i h t : Nat) : mw_I := lpN (fun o J => sendI J i h t o) 2 (spillI (letGoI (lpN (fun o J => recvI J (7 + 11 * i) h o) 2 I) (7 + 11 * i)) (7 + 11 * i))
def hourI (tt : Nat → Nat) (h : Nat) (I : mw_I) : mw_I := mw_up (lpN (fun i J => runPlantI J i h (tt i)) 3 I) 0 6 (lpN (fun i J => runPlantI J i h (tt i)) 3 I 0 6 + 1)
def runI (tt : Nat → Nat) (h q : Nat) (I : mw_I) : mw_I := lpN (fun k J => hourI tt (h + k) J) q I
theorem fr_recv {I : mw_I} {b h o a : Nat} (h1 : a ≠ b + 5 + o) (h2 : a ≠ b + 2) (h3 : a ≠ 2) : recvI I b h o a = I a := by
  unfold recvI
  rw [mw_up_ne h3, mw_up_ne h2, mw_up_ne h1]
theorem fr_send {I : mw_I} {i h t o a : Nat} (h1 : a ≠ 7 + 11 * (i + 1) + 5 + o) (h2 : a ≠ 3) : sendI I i h t o a = I a := by
  unfold sendI
  split
  · rw [mw_up_ne h1]
  · rw [mw_up_ne h2]
theorem fr_recvs {I : mw_I} {b h a n : Nat} (hn : n ≤ 2) (h1 : a < b + 5 ∨ b + 7 ≤ a) (h2 : a ≠ b + 2) (h3 : a ≠ 2) : lpN (fun o J => recvI J b h o) n I a = I a :=
  lpN_inv (P := fun (J : mw_I) => J a = I a) n (fun k hk z hz => (fr_recv (by omega) h2 h3).trans hz) rfl
theorem fr_sends {I : mw_I} {i h t a n : Nat} (hn : n ≤ 2) (h1 : a < 7 + 11 * (i + 1) + 5 ∨ 7 + 11 * (i + 1) + 7 ≤ a) (h2 : a ≠ 3) : lpN (fun o J => sendI J i h t o) n I a = I a :=
  lpN_inv (P := fun (J : mw_I) => J a = I a) n (fun k hk z hz => (fr_send (by omega) h2).trans hz) rfl
theorem fr_mid {I : mw_I} {i h t a n : Nat} (hn : n ≤ 2) (h1 : a < 7 + 11 * (i + 1) + 5 ∨ 7 + 11 * (i + 1) + 7 ≤ a) (h2 : a ≠ 3) (h3 : a < 7 + 11 * i ∨ 7 + 11 * i + 7 ≤ a) (h4 : a ≠ 2) : lpN (fun o J => sendI J i h t o) n (spillI (letGoI (lpN (fun o J => recvI J (7 + 11 * i) h o) 2 I) (7 + 11 * i)) (7 + 11 * i)) a = I a := by
  rw [fr_sends hn h1 h2, fr_spill (by omega) (by omega) (by omega), fr_go (by omega) (by omega) (by omega), fr_recvs (by omega) (by omega) (by omega) h4]
theorem fr_midj {I : mw_I} {i h t j n : Nat} (hn : n ≤ 2) (hj : j < 12) : lpN (fun o J => sendI J i h t o) n (spillI (letGoI (lpN (fun o J => recvI J (7 + 11 * i) h o) 2 I) (7 + 11 * i)) (7 + 11 * i)) (7 + 11 * i) j = I (7 + 11 * i) j := by
  rw [fr_sends hn (by omega) (by omega), fr_spillj (by omega), fr_goj (by omega), fr_recvs (by omega) (by omega) (by omega) (by omega)]
theorem run_h {I : mw_I} {i h t : Nat} : runPlantI I i h t 0 = I 0 := fr_mid (by omega) (by omega) (by omega) (by omega) (by omega)
theorem run_t {I : mw_I} {i h t i2 j : Nat} (hj : j < 12) : runPlantI I i h t (7 + 11 * i2) j = I (7 + 11 * i2) j := by
  by_cases e : i2 = i
  · subst e
    exact fr_midj (by omega) hj
  · exact congrFun (fr_mid (by omega) (by omega) (by omega) (by omega) (by omega)) j
theorem runs_h {I : mw_I} {tt : Nat → Nat} {h n : Nat} : lpN (fun i J => runPlantI J i h (tt i)) n I 0 = I 0 := lpN_inv (P := fun (J : mw_I) => J 0 = I 0) n (fun _ _ _ hz => run_h.trans hz) rfl
theorem runs_t {I : mw_I} {tt : Nat → Nat} {h n i2 j : Nat} (hj : j < 12) : lpN (fun i J => runPlantI J i h (tt i)) n I (7 + 11 * i2) j = I (7 + 11 * i2) j := lpN_inv (P := fun (J : mw_I) => J (7 + 11 * i2) j = I (7 + 11 * i2) j) n (fun _ _ _ hz => (run_t hj).trans hz) rfl
theorem hours_t {I : mw_I} {tt : Nat → Nat} {h n i2 j : Nat} (hj : j < 12) : lpN (fun k J => hourI tt (h + k) J) n I (7 + 11 * i2) j = I (7 + 11 * i2) j := lpN_inv (P := fun (J : mw_I) => J (7 + 11 * i2) j = I (7 + 11 * i2) j) n (fun _ _ z hz => by
  show mw_up _ 0 6 _ (7 + 11 * i2) j = _
  rw [mw_up_ne (by omega), runs_t hj]
  exact hz) rfl
theorem hours_h {I : mw_I} {tt : Nat → Nat} {h : Nat} (hH : I 0 6 = nI h) : ∀ n : Nat, lpN (fun k J => hourI tt (h + k) J) n I 0 6 = nI (h + n)
  | 0 => hH
  | n + 1 => by
    rw [lpN_succ, hourI, mw_up_at, runs_h, hours_h hH n, nI_1]
    rfl
set_option maxRecDepth 20000 in
theorem c_sendOn (l : Launch) (i : Nat) (hi : i < 3) (o : Nat) (ho : o < 2) (h : Nat) (hh : h < 200) (t : Nat) (ht : t < 6) (I : mw_I) (hH : I 0 6 = nI h) (hT2 : I (7 + 11 * i) 2 = nI t) (L : mw_L) : mw_CT l yX1_sendOn (.code yX1_sendOn cX1_sendOn 5 none) 4 0 0 [.ref 0, .int (nI i), .int (nI o)] (mw_Y0, I, L) (.inl (none, mw_Y0, sendI I i h t o, L)) := by
  refine mw_enter RX1 rfl (by decide +kernel) (mw_cat rfl) (Nat.le_of_ble_eq_true rfl) (fun X hX hl hE hT hnm => ?_)
  subst hl
  show mw_G X 0 [some (.ref 0), some (.int (nI i)), some (.int (nI o)), none, none] [] mw_Y0 I L 0 0
  refine mw_aload_n hX dX1_sendOn_0 rfl rfl ?_
  refine mw_getR hX (r := 1) dX1_sendOn_1 (mw_Yl (by decide)) mw_YW fl_X1_11 (by decide) (by decide) rfl rfl ?_
  refine mw_iload_n hX dX1_sendOn_4 rfl rfl ?_
  refine mw_aaloadP hX (j := i) dX1_sendOn_5 (mw_Yl (by decide)) rfl rfl (by omega) (by decide) (mw_Yp (by omega)) ?_
  refine mw_getR hX dX1_sendOn_6 (mw_P0 (i := i) (by omega)).l0 (mw_P0 (i := i) (by omega)).s0 fl_X1_162 (by decide) (by decide) rfl (mw_P0 (i := i) (by omega)).r8 ?_
  refine mw_iload_n hX dX1_sendOn_9 rfl rfl ?_
  refine mw_iaload hX (j := o) dX1_sendOn_10 (mw_P0 (i := i) (by omega)).l3 (mw_P0 (i := i) (by omega)).s3 rfl (by omega) (by decide) ?_
  refine mw_istore_n hX dX1_sendOn_11 rfl (Nat.le_of_ble_eq_true rfl) ?_
  dsimp only [List.set]
  refine mw_iload_n hX dX1_sendOn_12 rfl rfl ?_
  refine mw_ic hX 1 dX1_sendOn_13 rfl ?_
  refine mw_iadd hX dX1_sendOn_14 ?_
  refine mw_istore hX dX1_sendOn_15 (Nat.le_of_ble_eq_true rfl) ?_
  dsimp only [List.set]
  refine mw_iload hX dX1_sendOn_17 rfl ?_
  refine mw_ic hX 3 dX1_sendOn_19 rfl ?_
  refine mw_icmp_ge hX (tgt := 60) dX1_sendOn_20 (by decide) (fun h20 => ?_) (fun h20 => ?_)
  · rw [nI_1, mw_n3] at h20
    have hi1 : ¬ i + 1 < 3 := fun q => absurd h20 (nI_ge q (by decide))
    refine mw_aload_n hX dX1_sendOn_60 rfl rfl ?_
    refine mw_getR hX (r := 3) dX1_sendOn_61 (mw_Yl (by decide)) mw_YW fl_X1_19 (by decide) (by decide) rfl rfl ?_
    refine mw_iload_n hX dX1_sendOn_64 rfl rfl ?_
    refine mw_dup2 hX dX1_sendOn_65 ?_
    refine mw_iaload hX (j := o) dX1_sendOn_66 (mw_Yl (by decide)) rfl rfl (by omega) (by decide) ?_
    refine mw_iload_n hX dX1_sendOn_67 rfl rfl ?_
    refine mw_iadd hX dX1_sendOn_68 ?_
    refine mw_iastore hX (j := o) dX1_sendOn_69 (mw_Yl (by decide)) rfl rfl (by omega) (by decide) ?_
    exact mw_return hX hE dX1_sendOn_70 (by rw [sendI, if_neg hi1]) (by omega) (by omega)
  · rw [nI_1, mw_n3] at h20
    have hi1 : i + 1 < 3 := Nat.lt_of_not_le (fun q => h20 (nI_le q (by omega)))
    refine mw_aload_n hX dX1_sendOn_23 rfl rfl ?_
    refine mw_getR hX (r := 1) dX1_sendOn_24 (mw_Yl (by decide)) mw_YW fl_X1_11 (by decide) (by decide) rfl rfl ?_
    refine mw_iload hX dX1_sendOn_27 rfl ?_
    refine mw_aaloadP hX (j := i + 1) dX1_sendOn_29 (mw_Yl (by decide)) rfl (by simp only [mw_n0, mw_n1, mw_n2, mw_n3, mw_n4, mw_n5, mw_n6, mw_n8, mw_n9, mw_n18, mw_n210, mw_n260, pk_mul, nI_add]) (by omega) (by decide) (mw_Yp (by omega)) ?_
    refine mw_getR hX dX1_sendOn_30 (mw_P0 (i := i + 1) (by omega)).l0 (mw_P0 (i := i + 1) (by omega)).s0 fl_X1_101 (by decide) (by decide) rfl (mw_P0 (i := i + 1) (by omega)).r9 ?_
    refine mw_iload_n hX dX1_sendOn_33 rfl rfl ?_
    refine mw_aaloadR hX (j := o) dX1_sendOn_34 (mw_P0 (i := i + 1) (by omega)).l4 (mw_P0 (i := i + 1) (by omega)).s4 rfl (by omega) (by decide) ((mw_P0 (i := i + 1) (by omega)).u (by omega)) ?_
    refine mw_aload_n hX dX1_sendOn_35 rfl rfl ?_
    refine mw_getI hX dX1_sendOn_36 (mw_Yl (by decide)) mw_YW fl_X1_72 (by decide) (by decide) rfl ?_
    rw [hH]
    refine mw_aload_n hX dX1_sendOn_39 rfl rfl ?_
    refine mw_getR hX (r := 1) dX1_sendOn_40 (mw_Yl (by decide)) mw_YW fl_X1_11 (by decide) (by decide) rfl rfl ?_
    refine mw_iload_n hX dX1_sendOn_43 rfl rfl ?_
    refine mw_aaloadP hX (j := i) dX1_sendOn_44 (mw_Yl (by decide)) rfl rfl (by omega) (by decide) (mw_Yp (by omega)) ?_
    refine mw_getI hX dX1_sendOn_45 (mw_P0 (i := i) (by omega)).l0 (mw_P0 (i := i) (by omega)).s0 fl_X1_47 (by decide) (by decide) rfl ?_
    rw [hT2]
    refine mw_iadd hX dX1_sendOn_48 ?_
    rw [nI_add]
    refine mw_cS hX [_] ws_X1_104 dX1_sendOn_49 (c_slotOf (mw_l X) (h + t) (by omega) mw_Y0 _ L) rfl (by decide) (by omega) (by omega) (Nat.le_of_ble_eq_true rfl) ?_
    refine mw_dup2 hX dX1_sendOn_52 ?_
    refine mw_iaload hX (j := (h + t) % 6) dX1_sendOn_53 ((mw_P0 (i := i + 1) (by omega)).l5 (o := o) (by omega)) ((mw_P0 (i := i + 1) (by omega)).s5 (o := o) (by omega)) rfl (by omega) (by decide) ?_
    refine mw_iload_n hX dX1_sendOn_54 rfl rfl ?_
    refine mw_iadd hX dX1_sendOn_55 ?_
    refine mw_iastore hX (j := (h + t) % 6) dX1_sendOn_56 ((mw_P0 (i := i + 1) (by omega)).l5 (o := o) (by omega)) ((mw_P0 (i := i + 1) (by omega)).s5 (o := o) (by omega)) rfl (by omega) (by decide) ?_
    refine mw_goto hX (tgt := 70) dX1_sendOn_57 (by decide) ?_
    exact mw_return hX hE dX1_sendOn_70 (by rw [sendI, if_pos hi1]) (by omega) (by omega)
set_option maxRecDepth 20000 in
theorem c_runPlant (l : Launch) (i : Nat) (hi : i < 3) (h : Nat) (hh : h < 200) (t : Nat) (ht : t < 6) (I : mw_I) (hH : I 0 6 = nI h) (hT2 : I (7 + 11 * i) 2 = nI t) (L : mw_L) : mw_CT l yX1_runPlant (.code yX1_runPlant cX1_runPlant 5 none) 5 0 0 [.ref 0, .int (nI i)] (mw_Y0, I, L) (.inl (none, mw_Y0, runPlantI I i h t, L)) := by
  refine mw_enter RX1 rfl (by decide +kernel) (mw_cat rfl) (Nat.le_of_ble_eq_true rfl) (fun X hX hl hE hT hnm => ?_)
  subst hl
  show mw_G X 0 [some (.ref 0), some (.int (nI i)), none, none, none] [] mw_Y0 I L 0 0
  refine mw_aload_n hX dX1_runPlant_0 rfl rfl ?_
  refine mw_getR hX (r := 1) dX1_runPlant_1 (mw_Yl (by decide)) mw_YW fl_X1_11 (by decide) (by decide) rfl rfl ?_
  refine mw_iload_n hX dX1_runPlant_4 rfl rfl ?_
  refine mw_aaloadP hX (j := i) dX1_runPlant_5 (mw_Yl (by decide)) rfl rfl (by omega) (by decide) (mw_Yp (by omega)) ?_
  refine mw_astore_n hX dX1_runPlant_6 rfl (Nat.le_of_ble_eq_true rfl) ?_
  dsimp only [List.set]
  refine mw_ic hX 0 dX1_runPlant_7 rfl ?_
  refine mw_istore_n hX dX1_runPlant_8 rfl (Nat.le_of_ble_eq_true rfl) ?_
  dsimp only [List.set]
  refine mw_drop 4 ?_
  dsimp only [List.set]
  refine lp_dn (P := fun o => mw_G X 9 [some (.ref 0), some (.int (nI i)), some (.ref (7 + 11 * i)), some (.int (nI (o))), none] [] mw_Y0 (lpN (fun o J => recvI J (7 + 11 * i) h o) o I) (L) 0 0) 0 2 ?_ ?_ 0 (Nat.le_refl _) (by omega)
  · show mw_G X 9 [some (.ref 0), some (.int (nI i)), some (.ref (7 + 11 * i)), some (.int (nI (2))), none] [] mw_Y0 (lpN (fun o J => recvI J (7 + 11 * i) h o) 2 I) (L) 0 0
    refine mw_iload_n hX dX1_runPlant_9 rfl rfl ?_
    refine mw_ic hX 2 dX1_runPlant_10 rfl ?_
    refine mw_icmp_ge hX (tgt := 62) dX1_runPlant_11 (by decide) (fun h11 => ?_) (fun h11 => ?_)
    · refine mw_aload_n hX dX1_runPlant_62 rfl rfl ?_
      refine mw_cV hX [] ws_X1_152 dX1_runPlant_63 (c_letGo (mw_l X) mw_Y0 _ (mw_P0 hi) _ L) (mw_P0 hi).l0 (mw_P0 hi).s0 (by decide) rfl (by decide) (by omega) (by omega) (Nat.le_of_ble_eq_true rfl) ?_
      refine mw_aload_n hX dX1_runPlant_66 rfl rfl ?_
      refine mw_cV hX [] ws_X1_155 dX1_runPlant_67 (c_spillOver (mw_l X) mw_Y0 _ (mw_P0 hi) _ L) (mw_P0 hi).l0 (mw_P0 hi).s0 (by decide) rfl (by decide) (by omega) (by omega) (Nat.le_of_ble_eq_true rfl) ?_
      refine mw_ic hX 0 dX1_runPlant_70 rfl ?_
      refine mw_istore_n hX dX1_runPlant_71 rfl (Nat.le_of_ble_eq_true rfl) ?_
      dsimp only [List.set]
      refine mw_drop 4 ?_
      dsimp only [List.set]
      refine lp_dn (P := fun o => mw_G X 72 [some (.ref 0), some (.int (nI i)), some (.ref (7 + 11 * i)), some (.int (nI (o))), none] [] mw_Y0 (lpN (fun o J => sendI J i h t o) o (spillI (letGoI (lpN (fun o J => recvI J (7 + 11 * i) h o) 2 I) (7 + 11 * i)) (7 + 11 * i))) (L) 0 0) 0 2 ?_ ?_ 0 (Nat.le_refl _) (by omega)
      · show mw_G X 72 [some (.ref 0), some (.int (nI i)), some (.ref (7 + 11 * i)), some (.int (nI (2))), none] [] mw_Y0 (lpN (fun o J => sendI J i h t o) 2 (spillI (letGoI (lpN (fun o J => recvI J (7 + 11 * i) h o) 2 I) (7 + 11 * i)) (7 + 11 * i))) (L) 0 0
        refine mw_iload_n hX dX1_runPlant_72 rfl rfl ?_
        refine mw_ic hX 2 dX1_runPlant_73 rfl ?_
        refine mw_icmp_ge hX (tgt := 89) dX1_runPlant_74 (by decide) (fun h74 => ?_) (fun h74 => ?_)
        · exact mw_return hX hE dX1_runPlant_89 (rfl) (by omega) (by omega)
        · exact absurd (nI_le (a := 2) (b := 2) (by omega) (by omega)) h74
      · intro o hso ho iho
        show mw_G X 72 [some (.ref 0), some (.int (nI i)), some (.ref (7 + 11 * i)), some (.int (nI (o))), none] [] mw_Y0 (lpN (fun o J => sendI J i h t o) o (spillI (letGoI (lpN (fun o J => recvI J (7 + 11 * i) h o) 2 I) (7 + 11 * i)) (7 + 11 * i))) (L) 0 0
        refine mw_iload_n hX dX1_runPlant_72 rfl rfl ?_
        refine mw_ic hX 2 dX1_runPlant_73 rfl ?_
        refine mw_icmp_ge hX (tgt := 89) dX1_runPlant_74 (by decide) (fun h74 => ?_) (fun h74 => ?_)
        · exact absurd h74 (nI_ge (a := o) (b := 2) (by omega) (by omega))
        · refine mw_aload_n hX dX1_runPlant_77 rfl rfl ?_
          refine mw_iload_n hX dX1_runPlant_78 rfl rfl ?_
          refine mw_iload_n hX dX1_runPlant_79 rfl rfl ?_
          refine mw_cV hX [_, _] ws_X1_158 dX1_runPlant_80 (c_sendOn (mw_l X) i hi o (by omega) h hh t ht _ ((congrFun (fr_mid (by omega) (by omega) (by omega) (by omega) (by omega)) 6).trans hH) ((fr_midj (by omega) (by omega)).trans hT2) L) (mw_Yl (by decide)) mw_YW (by decide) rfl (by decide) (by omega) (by omega) (Nat.le_of_ble_eq_true rfl) ?_
          refine mw_inc hX (nI (o + 1)) dX1_runPlant_83 rfl (mw_inc1 _) ?_
          dsimp only [List.set]
          refine mw_goto hX (tgt := 72) dX1_runPlant_86 (by decide) ?_
          refine mw_drop 4 ?_
          dsimp only [List.set]
          exact iho
    · exact absurd (nI_le (a := 2) (b := 2) (by omega) (by omega)) h11
  · intro o hso ho iho
    show mw_G X 9 [some (.ref 0), some (.int (nI i)), some (.ref (7 + 11 * i)), some (.int (nI (o))), none] [] mw_Y0 (lpN (fun o J => recvI J (7 + 11 * i) h o) o I) (L) 0 0
    refine mw_iload_n hX dX1_runPlant_9 rfl rfl ?_
    refine mw_ic hX 2 dX1_runPlant_10 rfl ?_
    refine mw_icmp_ge hX (tgt := 62) dX1_runPlant_11 (by decide) (fun h11 => ?_) (fun h11 => ?_)
    · exact absurd h11 (nI_ge (a := o) (b := 2) (by omega) (by omega))
    · refine mw_aload_n hX dX1_runPlant_14 rfl rfl ?_
      refine mw_iload_n hX dX1_runPlant_15 rfl rfl ?_
      refine mw_cV hX [_] ws_X1_146 dX1_runPlant_16 (c_inflowOf (mw_l X) mw_Y0 _ (mw_P0 hi) o (by omega) _ L) (mw_P0 hi).l0 (mw_P0 hi).s0 (by decide) rfl (by decide) (by omega) (by omega) (Nat.le_of_ble_eq_true rfl) ?_
      refine mw_istore hX dX1_runPlant_19 (Nat.le_of_ble_eq_true rfl) ?_
      dsimp only [List.set]
      refine mw_aload_n hX dX1_runPlant_21 rfl rfl ?_
      refine mw_getR hX dX1_runPlant_22 (mw_P0 hi).l0 (mw_P0 hi).s0 fl_X1_85 (by decide) (by decide) rfl (mw_P0 hi).r7 ?_
      refine mw_iload_n hX dX1_runPlant_25 rfl rfl ?_
      refine mw_dup2 hX dX1_runPlant_26 ?_
      refine mw_iaload hX (j := o) dX1_runPlant_27 (mw_P0 hi).l2 (mw_P0 hi).s2 rfl (by omega) (by decide) ?_
      refine mw_aload_n hX dX1_runPlant_28 rfl rfl ?_
      refine mw_iload_n hX dX1_runPlant_29 rfl rfl ?_
      refine mw_aload_n hX dX1_runPlant_30 rfl rfl ?_
      refine mw_getI hX dX1_runPlant_31 (mw_Yl (by decide)) mw_YW fl_X1_72 (by decide) (by decide) rfl ?_
      rw [fr_recvs (by omega) (by omega) (by omega) (by omega), hH]
      refine mw_cS hX [_] ws_X1_104 dX1_runPlant_34 (c_slotOf (mw_l X) h (by omega) mw_Y0 _ L) rfl (by decide) (by omega) (by omega) (Nat.le_of_ble_eq_true rfl) ?_
      refine mw_cV hX [_, _] ws_X1_149 dX1_runPlant_37 (c_takeArrived (mw_l X) mw_Y0 _ (mw_P0 hi) o (h % 6) (by omega) (by omega) _ L) (mw_P0 hi).l0 (mw_P0 hi).s0 (by decide) rfl (by decide) (by omega) (by omega) (Nat.le_of_ble_eq_true rfl) ?_
      refine mw_iload hX dX1_runPlant_40 rfl ?_
      refine mw_iadd hX dX1_runPlant_42 ?_
      refine mw_iadd hX dX1_runPlant_43 ?_
      refine mw_iastore hX (j := o) dX1_runPlant_44 (mw_P0 hi).l2 (mw_P0 hi).s2 rfl (by omega) (by decide) ?_
      refine mw_aload_n hX dX1_runPlant_45 rfl rfl ?_
      refine mw_getR hX (r := 2) dX1_runPlant_46 (mw_Yl (by decide)) mw_YW fl_X1_15 (by decide) (by decide) rfl rfl ?_
      refine mw_iload_n hX dX1_runPlant_49 rfl rfl ?_
      refine mw_dup2 hX dX1_runPlant_50 ?_
      refine mw_iaload hX (j := o) dX1_runPlant_51 (mw_Yl (by decide)) rfl rfl (by omega) (by decide) ?_
      refine mw_iload hX dX1_runPlant_52 rfl ?_
      refine mw_iadd hX dX1_runPlant_54 ?_
      refine mw_iastore hX (j := o) dX1_runPlant_55 (mw_Yl (by decide)) rfl rfl (by omega) (by decide) ?_
      refine mw_inc hX (nI (o + 1)) dX1_runPlant_56 rfl (mw_inc1 _) ?_
      dsimp only [List.set]
      refine mw_goto hX (tgt := 9) dX1_runPlant_59 (by decide) ?_
      refine mw_drop 4 ?_
      dsimp only [List.set]
      exact iho
set_option maxRecDepth 20000 in
theorem c_runX (l : Launch) (q : Int32) (h : ¬ okR q 1 24) (I : mw_I) (L : mw_L) : mw_CT l yX1_run (.code yX1_run cX1_run 4 (some .int)) 6 1 6 [.ref 0, .int q] (mw_Y0, I, L) (.inr "java/lang/IllegalArgumentException") := by
  refine mw_enter RX1 rfl (by decide +kernel) (mw_cat rfl) (Nat.le_of_ble_eq_true rfl) (fun X hX hl hE hT hnm => ?_)
  subst hl
  show mw_G X 0 [some (.ref 0), some (.int q), none, none] [] mw_Y0 I L 0 0
  refine mw_iload_n hX dX1_run_0 rfl rfl ?_
  refine mw_ic hX 1 dX1_run_1 rfl ?_
  refine mw_bp hX 24 dX1_run_2 rfl ?_
  exact mw_cSX hX hE hT [_, _, _] ws_X1_36 dX1_run_4 (c_checkRangeX (mw_l X) q 1 24 h mw_Y0 I L) rfl (by decide) (by omega) (by omega) (Nat.le_of_ble_eq_true rfl) (rfl) (by omega) (by omega)
set_option maxRecDepth 20000 in
theorem c_runS (l : Launch) (q : Nat) (hq0 : 1 ≤ q) (hq : q < 25) (h : Nat) (hh : h < 201) (hs : 200 < h + q) (I : mw_I) (hH : I 0 6 = nI h) (L : mw_L) : mw_CT l yX1_run (.code yX1_run cX1_run 4 (some .int)) 6 2 12 [.ref 0, .int (nI q)] (mw_Y0, I, L) (.inr "java/lang/IllegalStateException") := by
  refine mw_enter RX1 rfl (by decide +kernel) (mw_cat rfl) (Nat.le_of_ble_eq_true rfl) (fun X hX hl hE hT hnm => ?_)
  subst hl
  show mw_G X 0 [some (.ref 0), some (.int (nI q)), none, none] [] mw_Y0 I L 0 0
  refine mw_iload_n hX dX1_run_0 rfl rfl ?_
  refine mw_ic hX 1 dX1_run_1 rfl ?_
  refine mw_bp hX 24 dX1_run_2 rfl ?_
  refine mw_cS hX [_, _, _] ws_X1_36 dX1_run_4 (c_checkRange (mw_l X) (nI q) 1 24 ⟨nI_nlt (a := q) (b := 1) hq0 (by omega), nI_le (a := q) (b := 24) (by omega) (by decide)⟩ mw_Y0 I L) rfl (by decide) (by omega) (by omega) (Nat.le_of_ble_eq_true rfl) ?_
  refine mw_aload_n hX dX1_run_7 rfl rfl ?_
  refine mw_getI hX dX1_run_8 (mw_Yl (by decide)) mw_YW fl_X1_72 (by decide) (by decide) rfl ?_
  rw [hH]
  refine mw_iload_n hX dX1_run_11 rfl rfl ?_
  refine mw_iadd hX dX1_run_12 ?_
  rw [nI_add]
  refine mw_sp hX 200 dX1_run_13 rfl ?_
  refine mw_icmp_le hX (tgt := 29) dX1_run_16 (by decide) (fun h16 => ?_) (fun h16 => ?_)
  · exact absurd h16 (nI_ge (a := 200) (b := h + q) hs (by omega))
  · exact mw_throw hX hE hT th_77 dX1_run_19 dX1_run_22 dX1_run_23 dX1_run_25 dX1_run_28 (rfl) (by omega) (by omega) (by omega) (by omega) (Nat.le_of_ble_eq_true rfl)
set_option maxRecDepth 20000 in
theorem c_run (l : Launch) (q : Nat) (hq0 : 1 ≤ q) (hq : q < 25) (h : Nat) (hs : h + q ≤ 200) (tt : Nat → Nat) (I : mw_I) (hH : I 0 6 = nI h) (ht : ∀ i, i < 3 → tt i < 6 ∧ I (7 + 11 * i) 2 = nI (tt i)) (L : mw_L) : mw_CT l yX1_run (.code yX1_run cX1_run 4 (some .int)) 6 1 6 [.ref 0, .int (nI q)] (mw_Y0, I, L) (.inl (some (.int (runI tt h q I 0 6)), mw_Y0, runI tt h q I, L)) := by
  refine mw_enter RX1 rfl (by decide +kernel) (mw_cat rfl) (Nat.le_of_ble_eq_true rfl) (fun X hX hl hE hT hnm => ?_)
  subst hl
  show mw_G X 0 [some (.ref 0), some (.int (nI q)), none, none] [] mw_Y0 I L 0 0
  refine mw_iload_n hX dX1_run_0 rfl rfl ?_
  refine mw_ic hX 1 dX1_run_1 rfl ?_
  refine mw_bp hX 24 dX1_run_2 rfl ?_
  refine mw_cS hX [_, _, _] ws_X1_36 dX1_run_4 (c_checkRange (mw_l X) (nI q) 1 24 ⟨nI_nlt (a := q) (b := 1) hq0 (by omega), nI_le (a := q) (b := 24) (by omega) (by decide)⟩ mw_Y0 I L) rfl (by decide) (by omega) (by omega) (Nat.le_of_ble_eq_true rfl) ?_
  refine mw_aload_n hX dX1_run_7 rfl rfl ?_
  refine mw_getI hX dX1_run_8 (mw_Yl (by decide)) mw_YW fl_X1_72 (by decide) (by decide) rfl ?_
  rw [hH]
  refine mw_iload_n hX dX1_run_11 rfl rfl ?_
  refine mw_iadd hX dX1_run_12 ?_
  rw [nI_add]
  refine mw_sp hX 200 dX1_run_13 rfl ?_
  refine mw_icmp_le hX (tgt := 29) dX1_run_16 (by decide) (fun h16 => ?_) (fun h16 => ?_)
  · refine mw_ic hX 0 dX1_run_29 rfl ?_
    refine mw_istore_n hX dX1_run_30 rfl (Nat.le_of_ble_eq_true rfl) ?_
    dsimp only [List.set]
    refine mw_drop 3 ?_
    dsimp only [List.set]
    refine lp_dn (P := fun k => mw_G X 31 [some (.ref 0), some (.int (nI q)), some (.int (nI (k))), none] [] mw_Y0 (lpN (fun k J => hourI tt (h + k) J) k I) (L) 1 6) 0 q ?_ ?_ 0 (Nat.le_refl _) (by omega)
    · show mw_G X 31 [some (.ref 0), some (.int (nI q)), some (.int (nI (q))), none] [] mw_Y0 (lpN (fun k J => hourI tt (h + k) J) q I) (L) 1 6
      refine mw_iload_n hX dX1_run_31 rfl rfl ?_
      refine mw_iload_n hX dX1_run_32 rfl rfl ?_
      refine mw_icmp_ge hX (tgt := 70) dX1_run_33 (by decide) (fun h33 => ?_) (fun h33 => ?_)
      · refine mw_aload_n hX dX1_run_70 rfl rfl ?_
        refine mw_getI hX dX1_run_71 (mw_Yl (by decide)) mw_YW fl_X1_72 (by decide) (by decide) rfl ?_
        exact mw_ireturn hX hE dX1_run_74 (rfl) (by omega) (by omega)
      · exact absurd (nI_le (a := q) (b := q) (by omega) (by omega)) h33
    · intro k hsk hk ihk
      show mw_G X 31 [some (.ref 0), some (.int (nI q)), some (.int (nI (k))), none] [] mw_Y0 (lpN (fun k J => hourI tt (h + k) J) k I) (L) 1 6
      refine mw_iload_n hX dX1_run_31 rfl rfl ?_
      refine mw_iload_n hX dX1_run_32 rfl rfl ?_
      refine mw_icmp_ge hX (tgt := 70) dX1_run_33 (by decide) (fun h33 => ?_) (fun h33 => ?_)
      · exact absurd h33 (nI_ge (a := k) (b := q) (by omega) (by omega))
      · refine mw_ic hX 0 dX1_run_36 rfl ?_
        refine mw_istore_n hX dX1_run_37 rfl (Nat.le_of_ble_eq_true rfl) ?_
        dsimp only [List.set]
        refine lp_dn (P := fun i => mw_G X 38 [some (.ref 0), some (.int (nI q)), some (.int (nI k)), some (.int (nI (i)))] [] mw_Y0 (lpN (fun i J => runPlantI J i (h + k) (tt i)) i (lpN (fun k J => hourI tt (h + k) J) k I)) (L) 1 6) 0 3 ?_ ?_ 0 (Nat.le_refl _) (by omega)
        · show mw_G X 38 [some (.ref 0), some (.int (nI q)), some (.int (nI k)), some (.int (nI (3)))] [] mw_Y0 (lpN (fun i J => runPlantI J i (h + k) (tt i)) 3 (lpN (fun k J => hourI tt (h + k) J) k I)) (L) 1 6
          refine mw_iload_n hX dX1_run_38 rfl rfl ?_
          refine mw_ic hX 3 dX1_run_39 rfl ?_
          refine mw_icmp_ge hX (tgt := 54) dX1_run_40 (by decide) (fun h40 => ?_) (fun h40 => ?_)
          · refine mw_aload_n hX dX1_run_54 rfl rfl ?_
            refine mw_dupR hX dX1_run_55 ?_
            refine mw_getI hX dX1_run_56 (mw_Yl (by decide)) mw_YW fl_X1_72 (by decide) (by decide) rfl ?_
            refine mw_ic hX 1 dX1_run_59 rfl ?_
            refine mw_iadd hX dX1_run_60 ?_
            refine mw_putI hX dX1_run_61 (mw_Yl (by decide)) mw_YW fl_X1_72 (by decide) (by decide) rfl ?_
            refine mw_inc hX (nI (k + 1)) dX1_run_64 rfl (mw_inc1 _) ?_
            dsimp only [List.set]
            refine mw_goto hX (tgt := 31) dX1_run_67 (by decide) ?_
            refine mw_drop 3 ?_
            dsimp only [List.set]
            exact ihk
          · exact absurd (nI_le (a := 3) (b := 3) (by omega) (by omega)) h40
        · intro i hsi hi ihi
          show mw_G X 38 [some (.ref 0), some (.int (nI q)), some (.int (nI k)), some (.int (nI (i)))] [] mw_Y0 (lpN (fun i J => runPlantI J i (h + k) (tt i)) i (lpN (fun k J => hourI tt (h + k) J) k I)) (L) 1 6
          refine mw_iload_n hX dX1_run_38 rfl rfl ?_
          refine mw_ic hX 3 dX1_run_39 rfl ?_
          refine mw_icmp_ge hX (tgt := 54) dX1_run_40 (by decide) (fun h40 => ?_) (fun h40 => ?_)
          · exact absurd h40 (nI_ge (a := i) (b := 3) (by omega) (by omega))
          · refine mw_aload_n hX dX1_run_43 rfl rfl ?_
            refine mw_iload_n hX dX1_run_44 rfl rfl ?_
            refine mw_cV hX [_] ws_X1_82 dX1_run_45 (c_runPlant (mw_l X) i (by omega) (h + k) (by omega) (tt i) (ht i (by omega)).1 _ ((congrFun runs_h 6).trans (hours_h hH k)) (((runs_t (by omega)).trans (hours_t (by omega))).trans (ht i (by omega)).2) L) (mw_Yl (by decide)) mw_YW (by decide) rfl (by decide) (by omega) (by omega) (Nat.le_of_ble_eq_true rfl) ?_
            refine mw_inc hX (nI (i + 1)) dX1_run_48 rfl (mw_inc1 _) ?_
            dsimp only [List.set]
            refine mw_goto hX (tgt := 38) dX1_run_51 (by decide) ?_
            exact ihi
  · exact absurd (nI_le (a := h + q) (b := 200) (by omega) (by decide)) h16
