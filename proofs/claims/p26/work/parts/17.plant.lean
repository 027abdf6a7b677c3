/-! Plant: the methods that write, the loops (by program: wip/whole/gen17.py) -/
theorem lp_dn {P : Nat → Prop} (s N : Nat) (hx : P N) (hs : ∀ k, s ≤ k → k < N → P (k + 1) → P k) : ∀ k, s ≤ k → k ≤ N → P k := by
  intro k h1 h2
  obtain ⟨m, hm⟩ : ∃ m, k + m = N := ⟨N - k, by omega⟩
  induction m generalizing k with
  | zero => rw [show k = N by omega]; exact hx
  | succ m ih => exact hs k h1 (by omega) (ih (k + 1) (by omega) (by omega) (by omega))
theorem mw_drop {X : mw_X} {pc : Nat} {ls : List (Option Value)} {st : List Value} {y : mw_Y} {I : mw_I} {L : mw_L} {n k : Nat} (i : Nat) (kk : mw_G X pc (ls.set i none) st y I L n k) : mw_G X pc ls st y I L n k := by
  obtain ⟨p, l, e, R, s, m, args, below, meth, c, Q, D, cA, ad0, N0⟩ := X
  intro ad H locs lsC hR hL
  refine kk ad H locs lsC hR ⟨hL.1, hL.2.1, by rw [List.length_set]; exact hL.2.2.1, fun j v hj => ?_⟩
  by_cases hij : j = i
  · subst hij
    have hl : j < ls.length := by
      have := (List.getElem?_eq_some_iff.mp hj).1
      simpa using this
    rw [List.getElem?_set_self hl] at hj
    cases hj
  · rw [List.getElem?_set_ne (Ne.symm hij)] at hj
    exact hL.2.2.2 j v hj
theorem moreV_lt (I : mw_I) (b : Nat) : moreV I b < 2 := by unfold moreV; split <;> omega
def sumV (I : mw_I) (b o : Nat) : Int32 := lpN (fun k z => z + I (b + 5 + o) k) 6 0
def cutF (I : mw_I) (b : Nat) (t : Int32) (f g : Nat) : mw_I :=
  let c := if I (b + 3) f < t then I (b + 3) f else t
  let I1 := mw_up I (b + 3) f (I (b + 3) f - c)
  mw_up I1 (b + 3) g (I1 (b + 3) g - (t - c))
def cutI (I : mw_I) (b : Nat) (t : Int32) : mw_I := if I (b + 2) 1 - I (b + 3) 1 ≤ I (b + 2) 0 - I (b + 3) 0 then cutF I b t 1 0 else cutF I b t 0 1
def partA (I : mw_I) (b : Nat) : mw_I :=
  let I1 := mw_up I (b + 3) 0 (I (b + 1) 0)
  mw_up I1 (b + 3) 1 (I1 (b + 1) 1)
def lackV (I : mw_I) (b : Nat) : Int32 := I b 3 - I (b + 3) 0 - I (b + 3) 1
def partB (I : mw_I) (b : Nat) : mw_I := if lackV I b ≤ 0 then I else mw_up I (b + 3) (moreV I b) (I (b + 3) (moreV I b) + lackV I b)
def partC (I : mw_I) (b : Nat) (v : Int32) : mw_I := if I (b + 3) 0 + I (b + 3) 1 - v ≤ 0 then I else cutI I b (I (b + 3) 0 + I (b + 3) 1 - v)
def partsI (I : mw_I) (b : Nat) (v : Int32) : mw_I := partC (partB (partA I b) b) b v
def goA (J : mw_I) (b : Nat) : mw_I := if J b 3 ≤ J (b + 3) 0 + J (b + 3) 1 then J else mw_up J b 13 (J b 13 + 1)
def goB (J : mw_I) (b : Nat) (v p : Int32) : mw_I :=
  let J2 := mw_up J b 14 (if 16 < p then 16 else p)
  let J3 := mw_up J2 b 15 (J2 b 15 + energyV J2 b v (J2 b 14))
  let J4 := mw_up J3 (b + 2) 0 (J3 (b + 2) 0 - J3 (b + 3) 0)
  mw_up J4 (b + 2) 1 (J4 (b + 2) 1 - J4 (b + 3) 1)
def goC (J : mw_I) (b : Nat) (v : Int32) : mw_I := goB (goA J b) b v (J (b + 3) 0 + J (b + 3) 1)
def letGoI (I : mw_I) (b : Nat) : mw_I := goC (partsI I b (waterV I b)) b (waterV I b)
def spillI (I : mw_I) (b : Nat) : mw_I :=
  let q := waterV I b - I b 0
  if q ≤ 0 then I else
  let o := moreV I b
  let I1 := mw_up I (b + 2) o (I (b + 2) o - q)
  let I2 := mw_up I1 (b + 3) o (I1 (b + 3) o + q)
  mw_up I2 b 12 (I2 b 12 + q)
def mixA (I : mw_I) (b : Nat) : mw_I := lpN (fun k J => mw_up J (b + 10) k 0) 17 I
def mixS (b a c : Nat) (J : mw_I) : mw_I := mw_up J (b + 10) (a + c) (if J (b + 10) (a + c) < J (b + 8 + 0) a + J (b + 8 + 1) c then J (b + 8 + 0) a + J (b + 8 + 1) c else J (b + 10) (a + c))
def mixB (I : mw_I) (b : Nat) : mw_I := lpN (fun a J => lpN (fun c J => mixS b a c J) 9 J) 9 I
def mixT (b k : Nat) (J : mw_I) : mw_I := mw_up J (b + 10) (k + 1) (if J (b + 10) (k + 1) < J (b + 10) k then J (b + 10) k else J (b + 10) (k + 1))
def mixC (I : mw_I) (b : Nat) : mw_I := lpN (mixT b) 16 I
def mixI (I : mw_I) (b : Nat) : mw_I := mixC (mixB (mixA I b) b) b
set_option maxRecDepth 20000 in
theorem c_takeArrived (l : Launch) (y : mw_Y) (b : Nat) (hP : mw_isP y b) (o s : Nat) (ho : o < 2) (hs : s < 6) (I : mw_I) (L : mw_L) : mw_CT l yX0_takeArrived (.code yX0_takeArrived cX0_takeArrived 4 (some .int)) 1 0 0 [.ref b, .int (nI o), .int (nI s)] (y, I, L) (.inl (some (.int (I (b + 5 + o) s)), y, mw_up I (b + 5 + o) s 0, L)) := by
  refine mw_enter RX0 rfl (by decide +kernel) (mw_cat rfl) (Nat.le_of_ble_eq_true rfl) (fun X hX hl hE hT hnm => ?_)
  subst hl
  show mw_G X 0 [some (.ref b), some (.int (nI o)), some (.int (nI s)), none] [] y I L 0 0
  refine mw_aload_n hX dX0_takeArrived_0 rfl rfl ?_
  refine mw_getR hX dX0_takeArrived_1 hP.l0 hP.s0 fl_X0_36 (by decide) (by decide) rfl hP.r9 ?_
  refine mw_iload_n hX dX0_takeArrived_4 rfl rfl ?_
  refine mw_aaloadR hX (j := o) dX0_takeArrived_5 hP.l4 hP.s4 rfl (by omega) (by decide) (hP.u (by omega)) ?_
  refine mw_iload_n hX dX0_takeArrived_6 rfl rfl ?_
  refine mw_iaload hX (j := s) dX0_takeArrived_7 (hP.l5 (o := o) (by omega)) (hP.s5 (o := o) (by omega)) rfl (by omega) (by decide) ?_
  refine mw_istore_n hX dX0_takeArrived_8 rfl (Nat.le_of_ble_eq_true rfl) ?_
  dsimp only [List.set]
  refine mw_aload_n hX dX0_takeArrived_9 rfl rfl ?_
  refine mw_getR hX dX0_takeArrived_10 hP.l0 hP.s0 fl_X0_36 (by decide) (by decide) rfl hP.r9 ?_
  refine mw_iload_n hX dX0_takeArrived_13 rfl rfl ?_
  refine mw_aaloadR hX (j := o) dX0_takeArrived_14 hP.l4 hP.s4 rfl (by omega) (by decide) (hP.u (by omega)) ?_
  refine mw_iload_n hX dX0_takeArrived_15 rfl rfl ?_
  refine mw_ic hX 0 dX0_takeArrived_16 rfl ?_
  refine mw_iastore hX (j := s) dX0_takeArrived_17 (hP.l5 (o := o) (by omega)) (hP.s5 (o := o) (by omega)) rfl (by omega) (by decide) ?_
  refine mw_iload_n hX dX0_takeArrived_18 rfl rfl ?_
  exact mw_ireturn hX hE dX0_takeArrived_19 (rfl) (by omega) (by omega)
set_option maxRecDepth 20000 in
theorem c_allUnderWay (l : Launch) (y : mw_Y) (b : Nat) (hP : mw_isP y b) (o : Nat) (ho : o < 2) (I : mw_I) (L : mw_L) : mw_CT l yX0_allUnderWay (.code yX0_allUnderWay cX0_allUnderWay 4 (some .int)) 1 0 0 [.ref b, .int (nI o)] (y, I, L) (.inl (some (.int (sumV I b o)), y, I, L)) := by
  refine mw_enter RX0 rfl (by decide +kernel) (mw_cat rfl) (Nat.le_of_ble_eq_true rfl) (fun X hX hl hE hT hnm => ?_)
  subst hl
  show mw_G X 0 [some (.ref b), some (.int (nI o)), none, none] [] y I L 0 0
  refine mw_ic hX 0 dX0_allUnderWay_0 rfl ?_
  refine mw_istore_n hX dX0_allUnderWay_1 rfl (Nat.le_of_ble_eq_true rfl) ?_
  dsimp only [List.set]
  refine mw_ic hX 0 dX0_allUnderWay_2 rfl ?_
  refine mw_istore_n hX dX0_allUnderWay_3 rfl (Nat.le_of_ble_eq_true rfl) ?_
  dsimp only [List.set]
  refine lp_dn (P := fun k => mw_G X 4 [some (.ref b), some (.int (nI o)), some (.int (lpN (fun k z => z + I (b + 5 + o) k) k 0)), some (.int (nI (k)))] [] y (I) (L) 0 0) 0 6 ?_ ?_ 0 (Nat.le_refl _) (by omega)
  · show mw_G X 4 [some (.ref b), some (.int (nI o)), some (.int (lpN (fun k z => z + I (b + 5 + o) k) 6 0)), some (.int (nI (6)))] [] y (I) (L) 0 0
    refine mw_iload_n hX dX0_allUnderWay_4 rfl rfl ?_
    refine mw_bp hX 6 dX0_allUnderWay_5 rfl ?_
    refine mw_icmp_ge hX (tgt := 27) dX0_allUnderWay_7 (by decide) (fun h7 => ?_) (fun h7 => ?_)
    · refine mw_iload_n hX dX0_allUnderWay_27 rfl rfl ?_
      exact mw_ireturn hX hE dX0_allUnderWay_28 (rfl) (by omega) (by omega)
    · exact absurd (nI_le (a := 6) (b := 6) (by omega) (by omega)) h7
  · intro k hsk hk ihk
    show mw_G X 4 [some (.ref b), some (.int (nI o)), some (.int (lpN (fun k z => z + I (b + 5 + o) k) k 0)), some (.int (nI (k)))] [] y (I) (L) 0 0
    refine mw_iload_n hX dX0_allUnderWay_4 rfl rfl ?_
    refine mw_bp hX 6 dX0_allUnderWay_5 rfl ?_
    refine mw_icmp_ge hX (tgt := 27) dX0_allUnderWay_7 (by decide) (fun h7 => ?_) (fun h7 => ?_)
    · exact absurd h7 (nI_ge (a := k) (b := 6) (by omega) (by omega))
    · refine mw_iload_n hX dX0_allUnderWay_10 rfl rfl ?_
      refine mw_aload_n hX dX0_allUnderWay_11 rfl rfl ?_
      refine mw_getR hX dX0_allUnderWay_12 hP.l0 hP.s0 fl_X0_36 (by decide) (by decide) rfl hP.r9 ?_
      refine mw_iload_n hX dX0_allUnderWay_15 rfl rfl ?_
      refine mw_aaloadR hX (j := o) dX0_allUnderWay_16 hP.l4 hP.s4 rfl (by omega) (by decide) (hP.u (by omega)) ?_
      refine mw_iload_n hX dX0_allUnderWay_17 rfl rfl ?_
      refine mw_iaload hX (j := k) dX0_allUnderWay_18 (hP.l5 (o := o) (by omega)) (hP.s5 (o := o) (by omega)) rfl (by omega) (by decide) ?_
      refine mw_iadd hX dX0_allUnderWay_19 ?_
      refine mw_istore_n hX dX0_allUnderWay_20 rfl (Nat.le_of_ble_eq_true rfl) ?_
      dsimp only [List.set]
      refine mw_inc hX (nI (k + 1)) dX0_allUnderWay_21 rfl (mw_inc1 _) ?_
      dsimp only [List.set]
      refine mw_goto hX (tgt := 4) dX0_allUnderWay_24 (by decide) ?_
      exact ihk
set_option maxRecDepth 20000 in
theorem c_cutParts (l : Launch) (y : mw_Y) (b : Nat) (hP : mw_isP y b) (t : Int32) (I : mw_I) (L : mw_L) : mw_CT l yX0_cutParts (.code yX0_cutParts cX0_cutParts 4 none) 2 0 0 [.ref b, .int t] (y, I, L) (.inl (none, y, cutI I b t, L)) := by
  refine mw_enter RX0 rfl (by decide +kernel) (mw_cat rfl) (Nat.le_of_ble_eq_true rfl) (fun X hX hl hE hT hnm => ?_)
  subst hl
  show mw_G X 0 [some (.ref b), some (.int t), none, none] [] y I L 0 0
  refine mw_aload_n hX dX0_cutParts_0 rfl rfl ?_
  refine mw_getR hX dX0_cutParts_1 hP.l0 hP.s0 fl_X0_28 (by decide) (by decide) rfl hP.r7 ?_
  refine mw_ic hX 0 dX0_cutParts_4 rfl ?_
  refine mw_iaload hX (j := 0) dX0_cutParts_5 hP.l2 hP.s2 rfl (by decide) (by decide) ?_
  refine mw_aload_n hX dX0_cutParts_6 rfl rfl ?_
  refine mw_getR hX dX0_cutParts_7 hP.l0 hP.s0 fl_X0_31 (by decide) (by decide) rfl hP.r8 ?_
  refine mw_ic hX 0 dX0_cutParts_10 rfl ?_
  refine mw_iaload hX (j := 0) dX0_cutParts_11 hP.l3 hP.s3 rfl (by decide) (by decide) ?_
  refine mw_isub hX dX0_cutParts_12 ?_
  refine mw_aload_n hX dX0_cutParts_13 rfl rfl ?_
  refine mw_getR hX dX0_cutParts_14 hP.l0 hP.s0 fl_X0_28 (by decide) (by decide) rfl hP.r7 ?_
  refine mw_ic hX 1 dX0_cutParts_17 rfl ?_
  refine mw_iaload hX (j := 1) dX0_cutParts_18 hP.l2 hP.s2 rfl (by decide) (by decide) ?_
  refine mw_aload_n hX dX0_cutParts_19 rfl rfl ?_
  refine mw_getR hX dX0_cutParts_20 hP.l0 hP.s0 fl_X0_31 (by decide) (by decide) rfl hP.r8 ?_
  refine mw_ic hX 1 dX0_cutParts_23 rfl ?_
  refine mw_iaload hX (j := 1) dX0_cutParts_24 hP.l3 hP.s3 rfl (by decide) (by decide) ?_
  refine mw_isub hX dX0_cutParts_25 ?_
  refine mw_icmp_ge hX (tgt := 33) dX0_cutParts_26 (by decide) (fun h26 => ?_) (fun h26 => ?_)
  · refine mw_ic hX 1 dX0_cutParts_33 rfl ?_
    refine mw_istore_n hX dX0_cutParts_34 rfl (Nat.le_of_ble_eq_true rfl) ?_
    dsimp only [List.set]
    refine mw_iload_n hX dX0_cutParts_35 rfl rfl ?_
    refine mw_aload_n hX dX0_cutParts_36 rfl rfl ?_
    refine mw_getR hX dX0_cutParts_37 hP.l0 hP.s0 fl_X0_31 (by decide) (by decide) rfl hP.r8 ?_
    refine mw_iload_n hX dX0_cutParts_40 rfl rfl ?_
    refine mw_iaload hX (j := 1) dX0_cutParts_41 hP.l3 hP.s3 rfl (by decide) (by decide) ?_
    refine mw_cS hX [_, _] ws_X0_75 dX0_cutParts_42 (c_min (mw_l X) _ _ y _ L) rfl (by decide) (by omega) (by omega) (Nat.le_of_ble_eq_true rfl) ?_
    refine mw_istore_n hX dX0_cutParts_45 rfl (Nat.le_of_ble_eq_true rfl) ?_
    dsimp only [List.set]
    refine mw_aload_n hX dX0_cutParts_46 rfl rfl ?_
    refine mw_getR hX dX0_cutParts_47 hP.l0 hP.s0 fl_X0_31 (by decide) (by decide) rfl hP.r8 ?_
    refine mw_iload_n hX dX0_cutParts_50 rfl rfl ?_
    refine mw_dup2 hX dX0_cutParts_51 ?_
    refine mw_iaload hX (j := 1) dX0_cutParts_52 hP.l3 hP.s3 rfl (by decide) (by decide) ?_
    refine mw_iload_n hX dX0_cutParts_53 rfl rfl ?_
    refine mw_isub hX dX0_cutParts_54 ?_
    refine mw_iastore hX (j := 1) dX0_cutParts_55 hP.l3 hP.s3 rfl (by decide) (by decide) ?_
    refine mw_aload_n hX dX0_cutParts_56 rfl rfl ?_
    refine mw_getR hX dX0_cutParts_57 hP.l0 hP.s0 fl_X0_31 (by decide) (by decide) rfl hP.r8 ?_
    refine mw_ic hX 1 dX0_cutParts_60 rfl ?_
    refine mw_iload_n hX dX0_cutParts_61 rfl rfl ?_
    refine mw_isub hX dX0_cutParts_62 ?_
    refine mw_dup2 hX dX0_cutParts_63 ?_
    refine mw_iaload hX (j := 0) dX0_cutParts_64 hP.l3 hP.s3 rfl (by decide) (by decide) ?_
    refine mw_iload_n hX dX0_cutParts_65 rfl rfl ?_
    refine mw_iload_n hX dX0_cutParts_66 rfl rfl ?_
    refine mw_isub hX dX0_cutParts_67 ?_
    refine mw_isub hX dX0_cutParts_68 ?_
    refine mw_iastore hX (j := 0) dX0_cutParts_69 hP.l3 hP.s3 rfl (by decide) (by decide) ?_
    exact mw_return hX hE dX0_cutParts_70 (by rw [cutI, if_pos h26]; rfl) (by omega) (by omega)
  · refine mw_ic hX 0 dX0_cutParts_29 rfl ?_
    refine mw_goto hX (tgt := 34) dX0_cutParts_30 (by decide) ?_
    refine mw_istore_n hX dX0_cutParts_34 rfl (Nat.le_of_ble_eq_true rfl) ?_
    dsimp only [List.set]
    refine mw_iload_n hX dX0_cutParts_35 rfl rfl ?_
    refine mw_aload_n hX dX0_cutParts_36 rfl rfl ?_
    refine mw_getR hX dX0_cutParts_37 hP.l0 hP.s0 fl_X0_31 (by decide) (by decide) rfl hP.r8 ?_
    refine mw_iload_n hX dX0_cutParts_40 rfl rfl ?_
    refine mw_iaload hX (j := 0) dX0_cutParts_41 hP.l3 hP.s3 rfl (by decide) (by decide) ?_
    refine mw_cS hX [_, _] ws_X0_75 dX0_cutParts_42 (c_min (mw_l X) _ _ y _ L) rfl (by decide) (by omega) (by omega) (Nat.le_of_ble_eq_true rfl) ?_
    refine mw_istore_n hX dX0_cutParts_45 rfl (Nat.le_of_ble_eq_true rfl) ?_
    dsimp only [List.set]
    refine mw_aload_n hX dX0_cutParts_46 rfl rfl ?_
    refine mw_getR hX dX0_cutParts_47 hP.l0 hP.s0 fl_X0_31 (by decide) (by decide) rfl hP.r8 ?_
    refine mw_iload_n hX dX0_cutParts_50 rfl rfl ?_
    refine mw_dup2 hX dX0_cutParts_51 ?_
    refine mw_iaload hX (j := 0) dX0_cutParts_52 hP.l3 hP.s3 rfl (by decide) (by decide) ?_
    refine mw_iload_n hX dX0_cutParts_53 rfl rfl ?_
    refine mw_isub hX dX0_cutParts_54 ?_
    refine mw_iastore hX (j := 0) dX0_cutParts_55 hP.l3 hP.s3 rfl (by decide) (by decide) ?_
    refine mw_aload_n hX dX0_cutParts_56 rfl rfl ?_
    refine mw_getR hX dX0_cutParts_57 hP.l0 hP.s0 fl_X0_31 (by decide) (by decide) rfl hP.r8 ?_
    refine mw_ic hX 1 dX0_cutParts_60 rfl ?_
    refine mw_iload_n hX dX0_cutParts_61 rfl rfl ?_
    refine mw_isub hX dX0_cutParts_62 ?_
    refine mw_dup2 hX dX0_cutParts_63 ?_
    refine mw_iaload hX (j := 1) dX0_cutParts_64 hP.l3 hP.s3 rfl (by decide) (by decide) ?_
    refine mw_iload_n hX dX0_cutParts_65 rfl rfl ?_
    refine mw_iload_n hX dX0_cutParts_66 rfl rfl ?_
    refine mw_isub hX dX0_cutParts_67 ?_
    refine mw_isub hX dX0_cutParts_68 ?_
    refine mw_iastore hX (j := 1) dX0_cutParts_69 hP.l3 hP.s3 rfl (by decide) (by decide) ?_
    exact mw_return hX hE dX0_cutParts_70 (by rw [cutI, if_neg h26]; rfl) (by omega) (by omega)
set_option maxRecDepth 20000 in
theorem c_setParts (l : Launch) (y : mw_Y) (b : Nat) (hP : mw_isP y b) (v : Int32) (I : mw_I) (L : mw_L) : mw_CT l yX0_setParts (.code yX0_setParts cX0_setParts 4 none) 3 0 0 [.ref b, .int v] (y, I, L) (.inl (none, y, partsI I b v, L)) := by
  refine mw_enter RX0 rfl (by decide +kernel) (mw_cat rfl) (Nat.le_of_ble_eq_true rfl) (fun X hX hl hE hT hnm => ?_)
  subst hl
  show mw_G X 0 [some (.ref b), some (.int v), none, none] [] y I L 0 0
  refine mw_aload_n hX dX0_setParts_0 rfl rfl ?_
  refine mw_getR hX dX0_setParts_1 hP.l0 hP.s0 fl_X0_31 (by decide) (by decide) rfl hP.r8 ?_
  refine mw_ic hX 0 dX0_setParts_4 rfl ?_
  refine mw_aload_n hX dX0_setParts_5 rfl rfl ?_
  refine mw_getR hX dX0_setParts_6 hP.l0 hP.s0 fl_X0_24 (by decide) (by decide) rfl hP.r6 ?_
  refine mw_ic hX 0 dX0_setParts_9 rfl ?_
  refine mw_iaload hX (j := 0) dX0_setParts_10 hP.l1 hP.s1 rfl (by decide) (by decide) ?_
  refine mw_iastore hX (j := 0) dX0_setParts_11 hP.l3 hP.s3 rfl (by decide) (by decide) ?_
  refine mw_aload_n hX dX0_setParts_12 rfl rfl ?_
  refine mw_getR hX dX0_setParts_13 hP.l0 hP.s0 fl_X0_31 (by decide) (by decide) rfl hP.r8 ?_
  refine mw_ic hX 1 dX0_setParts_16 rfl ?_
  refine mw_aload_n hX dX0_setParts_17 rfl rfl ?_
  refine mw_getR hX dX0_setParts_18 hP.l0 hP.s0 fl_X0_24 (by decide) (by decide) rfl hP.r6 ?_
  refine mw_ic hX 1 dX0_setParts_21 rfl ?_
  refine mw_iaload hX (j := 1) dX0_setParts_22 hP.l1 hP.s1 rfl (by decide) (by decide) ?_
  refine mw_iastore hX (j := 1) dX0_setParts_23 hP.l3 hP.s3 rfl (by decide) (by decide) ?_
  refine mw_aload_n hX dX0_setParts_24 rfl rfl ?_
  refine mw_getI hX dX0_setParts_25 hP.l0 hP.s0 fl_X0_69 (by decide) (by decide) rfl ?_
  refine mw_aload_n hX dX0_setParts_28 rfl rfl ?_
  refine mw_getR hX dX0_setParts_29 hP.l0 hP.s0 fl_X0_31 (by decide) (by decide) rfl hP.r8 ?_
  refine mw_ic hX 0 dX0_setParts_32 rfl ?_
  refine mw_iaload hX (j := 0) dX0_setParts_33 hP.l3 hP.s3 rfl (by decide) (by decide) ?_
  refine mw_isub hX dX0_setParts_34 ?_
  refine mw_aload_n hX dX0_setParts_35 rfl rfl ?_
  refine mw_getR hX dX0_setParts_36 hP.l0 hP.s0 fl_X0_31 (by decide) (by decide) rfl hP.r8 ?_
  refine mw_ic hX 1 dX0_setParts_39 rfl ?_
  refine mw_iaload hX (j := 1) dX0_setParts_40 hP.l3 hP.s3 rfl (by decide) (by decide) ?_
  refine mw_isub hX dX0_setParts_41 ?_
  refine mw_istore_n hX dX0_setParts_42 rfl (Nat.le_of_ble_eq_true rfl) ?_
  dsimp only [List.set]
  refine mw_iload_n hX dX0_setParts_43 rfl rfl ?_
  refine mw_if_le hX (tgt := 60) dX0_setParts_44 (by decide) (fun h44 => ?_) (fun h44 => ?_)
  · refine mw_aload_n hX dX0_setParts_60 rfl rfl ?_
    refine mw_getR hX dX0_setParts_61 hP.l0 hP.s0 fl_X0_31 (by decide) (by decide) rfl hP.r8 ?_
    refine mw_ic hX 0 dX0_setParts_64 rfl ?_
    refine mw_iaload hX (j := 0) dX0_setParts_65 hP.l3 hP.s3 rfl (by decide) (by decide) ?_
    refine mw_aload_n hX dX0_setParts_66 rfl rfl ?_
    refine mw_getR hX dX0_setParts_67 hP.l0 hP.s0 fl_X0_31 (by decide) (by decide) rfl hP.r8 ?_
    refine mw_ic hX 1 dX0_setParts_70 rfl ?_
    refine mw_iaload hX (j := 1) dX0_setParts_71 hP.l3 hP.s3 rfl (by decide) (by decide) ?_
    refine mw_iadd hX dX0_setParts_72 ?_
    refine mw_iload_n hX dX0_setParts_73 rfl rfl ?_
    refine mw_isub hX dX0_setParts_74 ?_
    refine mw_istore_n hX dX0_setParts_75 rfl (Nat.le_of_ble_eq_true rfl) ?_
    dsimp only [List.set]
    refine mw_iload_n hX dX0_setParts_76 rfl rfl ?_
    refine mw_if_le hX (tgt := 85) dX0_setParts_77 (by decide) (fun h77 => ?_) (fun h77 => ?_)
    · exact mw_return hX hE dX0_setParts_85 (congrArg (fun z => Sum.inl (none, y, z, L)) (show partC (partB (partA I b) b) b v = _ by rw [show partB (partA I b) b = partA I b from if_pos h44]; exact if_pos h77)) (by omega) (by omega)
    · refine mw_aload_n hX dX0_setParts_80 rfl rfl ?_
      refine mw_iload_n hX dX0_setParts_81 rfl rfl ?_
      refine mw_cV hX [_] ws_X0_90 dX0_setParts_82 (c_cutParts (mw_l X) y b hP _ _ L) hP.l0 hP.s0 (by decide) rfl (by decide) (by omega) (by omega) (Nat.le_of_ble_eq_true rfl) ?_
      exact mw_return hX hE dX0_setParts_85 (congrArg (fun z => Sum.inl (none, y, z, L)) (show partC (partB (partA I b) b) b v = _ by rw [show partB (partA I b) b = partA I b from if_pos h44]; exact if_neg h77)) (by omega) (by omega)
  · refine mw_aload_n hX dX0_setParts_47 rfl rfl ?_
    refine mw_getR hX dX0_setParts_48 hP.l0 hP.s0 fl_X0_31 (by decide) (by decide) rfl hP.r8 ?_
    refine mw_aload_n hX dX0_setParts_51 rfl rfl ?_
    refine mw_cV hX [] ws_X0_87 dX0_setParts_52 (c_ownerWithMore (mw_l X) y b hP _ L) hP.l0 hP.s0 (by decide) rfl (by decide) (by omega) (by omega) (Nat.le_of_ble_eq_true rfl) ?_
    refine mw_dup2 hX dX0_setParts_55 ?_
    refine mw_iaload hX (j := _) dX0_setParts_56 hP.l3 hP.s3 rfl (moreV_lt _ _) (by decide) ?_
    refine mw_iload_n hX dX0_setParts_57 rfl rfl ?_
    refine mw_iadd hX dX0_setParts_58 ?_
    refine mw_iastore hX (j := _) dX0_setParts_59 hP.l3 hP.s3 rfl (moreV_lt _ _) (by decide) ?_
    refine mw_aload_n hX dX0_setParts_60 rfl rfl ?_
    refine mw_getR hX dX0_setParts_61 hP.l0 hP.s0 fl_X0_31 (by decide) (by decide) rfl hP.r8 ?_
    refine mw_ic hX 0 dX0_setParts_64 rfl ?_
    refine mw_iaload hX (j := 0) dX0_setParts_65 hP.l3 hP.s3 rfl (by decide) (by decide) ?_
    refine mw_aload_n hX dX0_setParts_66 rfl rfl ?_
    refine mw_getR hX dX0_setParts_67 hP.l0 hP.s0 fl_X0_31 (by decide) (by decide) rfl hP.r8 ?_
    refine mw_ic hX 1 dX0_setParts_70 rfl ?_
    refine mw_iaload hX (j := 1) dX0_setParts_71 hP.l3 hP.s3 rfl (by decide) (by decide) ?_
    refine mw_iadd hX dX0_setParts_72 ?_
    refine mw_iload_n hX dX0_setParts_73 rfl rfl ?_
    refine mw_isub hX dX0_setParts_74 ?_
    refine mw_istore_n hX dX0_setParts_75 rfl (Nat.le_of_ble_eq_true rfl) ?_
    dsimp only [List.set]
    refine mw_iload_n hX dX0_setParts_76 rfl rfl ?_
    refine mw_if_le hX (tgt := 85) dX0_setParts_77 (by decide) (fun h77 => ?_) (fun h77 => ?_)
    · exact mw_return hX hE dX0_setParts_85 (congrArg (fun z => Sum.inl (none, y, z, L)) (show partC (partB (partA I b) b) b v = _ by rw [show partB (partA I b) b = _ from if_neg h44]; exact if_pos h77)) (by omega) (by omega)
    · refine mw_aload_n hX dX0_setParts_80 rfl rfl ?_
      refine mw_iload_n hX dX0_setParts_81 rfl rfl ?_
      refine mw_cV hX [_] ws_X0_90 dX0_setParts_82 (c_cutParts (mw_l X) y b hP _ _ L) hP.l0 hP.s0 (by decide) rfl (by decide) (by omega) (by omega) (Nat.le_of_ble_eq_true rfl) ?_
      exact mw_return hX hE dX0_setParts_85 (congrArg (fun z => Sum.inl (none, y, z, L)) (show partC (partB (partA I b) b) b v = _ by rw [show partB (partA I b) b = _ from if_neg h44]; exact if_neg h77)) (by omega) (by omega)
set_option maxRecDepth 20000 in
theorem c_letGo (l : Launch) (y : mw_Y) (b : Nat) (hP : mw_isP y b)  (I : mw_I) (L : mw_L) : mw_CT l yX0_letGo (.code yX0_letGo cX0_letGo 3 none) 4 0 0 [.ref b] (y, I, L) (.inl (none, y, letGoI I b, L)) := by
  refine mw_enter RX0 rfl (by decide +kernel) (mw_cat rfl) (Nat.le_of_ble_eq_true rfl) (fun X hX hl hE hT hnm => ?_)
  subst hl
  show mw_G X 0 [some (.ref b), none, none] [] y I L 0 0
  refine mw_aload_n hX dX0_letGo_0 rfl rfl ?_
  refine mw_cV hX [] ws_X0_61 dX0_letGo_1 (c_waterInPond (mw_l X) y b hP I L) hP.l0 hP.s0 (by decide) rfl (by decide) (by omega) (by omega) (Nat.le_of_ble_eq_true rfl) ?_
  refine mw_istore_n hX dX0_letGo_4 rfl (Nat.le_of_ble_eq_true rfl) ?_
  dsimp only [List.set]
  refine mw_aload_n hX dX0_letGo_5 rfl rfl ?_
  refine mw_iload_n hX dX0_letGo_6 rfl rfl ?_
  refine mw_cV hX [_] ws_X0_65 dX0_letGo_7 (c_setParts (mw_l X) y b hP _ I L) hP.l0 hP.s0 (by decide) rfl (by decide) (by omega) (by omega) (Nat.le_of_ble_eq_true rfl) ?_
  generalize hJ : partsI I b (waterV I b) = J
  refine mw_aload_n hX dX0_letGo_10 rfl rfl ?_
  refine mw_getR hX dX0_letGo_11 hP.l0 hP.s0 fl_X0_31 (by decide) (by decide) rfl hP.r8 ?_
  refine mw_ic hX 0 dX0_letGo_14 rfl ?_
  refine mw_iaload hX (j := 0) dX0_letGo_15 hP.l3 hP.s3 rfl (by decide) (by decide) ?_
  refine mw_aload_n hX dX0_letGo_16 rfl rfl ?_
  refine mw_getR hX dX0_letGo_17 hP.l0 hP.s0 fl_X0_31 (by decide) (by decide) rfl hP.r8 ?_
  refine mw_ic hX 1 dX0_letGo_20 rfl ?_
  refine mw_iaload hX (j := 1) dX0_letGo_21 hP.l3 hP.s3 rfl (by decide) (by decide) ?_
  refine mw_iadd hX dX0_letGo_22 ?_
  refine mw_istore_n hX dX0_letGo_23 rfl (Nat.le_of_ble_eq_true rfl) ?_
  dsimp only [List.set]
  refine mw_iload_n hX dX0_letGo_24 rfl rfl ?_
  refine mw_aload_n hX dX0_letGo_25 rfl rfl ?_
  refine mw_getI hX dX0_letGo_26 hP.l0 hP.s0 fl_X0_69 (by decide) (by decide) rfl ?_
  refine mw_icmp_ge hX (tgt := 42) dX0_letGo_29 (by decide) (fun h29 => ?_) (fun h29 => ?_)
  · refine mw_aload_n hX dX0_letGo_42 rfl rfl ?_
    refine mw_iload_n hX dX0_letGo_43 rfl rfl ?_
    refine mw_bp hX 16 dX0_letGo_44 rfl ?_
    refine mw_cS hX [_, _] ws_X0_75 dX0_letGo_46 (c_min (mw_l X) _ 16 y _ L) rfl (by decide) (by omega) (by omega) (Nat.le_of_ble_eq_true rfl) ?_
    refine mw_putI hX dX0_letGo_49 hP.l0 hP.s0 fl_X0_78 (by decide) (by decide) rfl ?_
    refine mw_aload_n hX dX0_letGo_52 rfl rfl ?_
    refine mw_dupR hX dX0_letGo_53 ?_
    refine mw_getI hX dX0_letGo_54 hP.l0 hP.s0 fl_X0_81 (by decide) (by decide) rfl ?_
    refine mw_aload_n hX dX0_letGo_57 rfl rfl ?_
    refine mw_iload_n hX dX0_letGo_58 rfl rfl ?_
    refine mw_aload_n hX dX0_letGo_59 rfl rfl ?_
    refine mw_getI hX dX0_letGo_60 hP.l0 hP.s0 fl_X0_78 (by decide) (by decide) rfl ?_
    refine mw_cV hX [_, _] ws_X0_84 dX0_letGo_63 (c_energyAt (mw_l X) y b hP _ _ _ L) hP.l0 hP.s0 (by decide) rfl (by decide) (by omega) (by omega) (Nat.le_of_ble_eq_true rfl) ?_
    refine mw_iadd hX dX0_letGo_66 ?_
    refine mw_putI hX dX0_letGo_67 hP.l0 hP.s0 fl_X0_81 (by decide) (by decide) rfl ?_
    refine mw_aload_n hX dX0_letGo_70 rfl rfl ?_
    refine mw_getR hX dX0_letGo_71 hP.l0 hP.s0 fl_X0_28 (by decide) (by decide) rfl hP.r7 ?_
    refine mw_ic hX 0 dX0_letGo_74 rfl ?_
    refine mw_dup2 hX dX0_letGo_75 ?_
    refine mw_iaload hX (j := 0) dX0_letGo_76 hP.l2 hP.s2 rfl (by decide) (by decide) ?_
    refine mw_aload_n hX dX0_letGo_77 rfl rfl ?_
    refine mw_getR hX dX0_letGo_78 hP.l0 hP.s0 fl_X0_31 (by decide) (by decide) rfl hP.r8 ?_
    refine mw_ic hX 0 dX0_letGo_81 rfl ?_
    refine mw_iaload hX (j := 0) dX0_letGo_82 hP.l3 hP.s3 rfl (by decide) (by decide) ?_
    refine mw_isub hX dX0_letGo_83 ?_
    refine mw_iastore hX (j := 0) dX0_letGo_84 hP.l2 hP.s2 rfl (by decide) (by decide) ?_
    refine mw_aload_n hX dX0_letGo_85 rfl rfl ?_
    refine mw_getR hX dX0_letGo_86 hP.l0 hP.s0 fl_X0_28 (by decide) (by decide) rfl hP.r7 ?_
    refine mw_ic hX 1 dX0_letGo_89 rfl ?_
    refine mw_dup2 hX dX0_letGo_90 ?_
    refine mw_iaload hX (j := 1) dX0_letGo_91 hP.l2 hP.s2 rfl (by decide) (by decide) ?_
    refine mw_aload_n hX dX0_letGo_92 rfl rfl ?_
    refine mw_getR hX dX0_letGo_93 hP.l0 hP.s0 fl_X0_31 (by decide) (by decide) rfl hP.r8 ?_
    refine mw_ic hX 1 dX0_letGo_96 rfl ?_
    refine mw_iaload hX (j := 1) dX0_letGo_97 hP.l3 hP.s3 rfl (by decide) (by decide) ?_
    refine mw_isub hX dX0_letGo_98 ?_
    refine mw_iastore hX (j := 1) dX0_letGo_99 hP.l2 hP.s2 rfl (by decide) (by decide) ?_
    exact mw_return hX hE dX0_letGo_100 (congrArg (fun z => Sum.inl (none, y, z, L)) (show goC (partsI I b (waterV I b)) b (waterV I b) = _ by rw [hJ, goC, show goA J b = J from if_pos h29]; rfl)) (by omega) (by omega)
  · refine mw_aload_n hX dX0_letGo_32 rfl rfl ?_
    refine mw_dupR hX dX0_letGo_33 ?_
    refine mw_getI hX dX0_letGo_34 hP.l0 hP.s0 fl_X0_72 (by decide) (by decide) rfl ?_
    refine mw_ic hX 1 dX0_letGo_37 rfl ?_
    refine mw_iadd hX dX0_letGo_38 ?_
    refine mw_putI hX dX0_letGo_39 hP.l0 hP.s0 fl_X0_72 (by decide) (by decide) rfl ?_
    refine mw_aload_n hX dX0_letGo_42 rfl rfl ?_
    refine mw_iload_n hX dX0_letGo_43 rfl rfl ?_
    refine mw_bp hX 16 dX0_letGo_44 rfl ?_
    refine mw_cS hX [_, _] ws_X0_75 dX0_letGo_46 (c_min (mw_l X) _ 16 y _ L) rfl (by decide) (by omega) (by omega) (Nat.le_of_ble_eq_true rfl) ?_
    refine mw_putI hX dX0_letGo_49 hP.l0 hP.s0 fl_X0_78 (by decide) (by decide) rfl ?_
    refine mw_aload_n hX dX0_letGo_52 rfl rfl ?_
    refine mw_dupR hX dX0_letGo_53 ?_
    refine mw_getI hX dX0_letGo_54 hP.l0 hP.s0 fl_X0_81 (by decide) (by decide) rfl ?_
    refine mw_aload_n hX dX0_letGo_57 rfl rfl ?_
    refine mw_iload_n hX dX0_letGo_58 rfl rfl ?_
    refine mw_aload_n hX dX0_letGo_59 rfl rfl ?_
    refine mw_getI hX dX0_letGo_60 hP.l0 hP.s0 fl_X0_78 (by decide) (by decide) rfl ?_
    refine mw_cV hX [_, _] ws_X0_84 dX0_letGo_63 (c_energyAt (mw_l X) y b hP _ _ _ L) hP.l0 hP.s0 (by decide) rfl (by decide) (by omega) (by omega) (Nat.le_of_ble_eq_true rfl) ?_
    refine mw_iadd hX dX0_letGo_66 ?_
    refine mw_putI hX dX0_letGo_67 hP.l0 hP.s0 fl_X0_81 (by decide) (by decide) rfl ?_
    refine mw_aload_n hX dX0_letGo_70 rfl rfl ?_
    refine mw_getR hX dX0_letGo_71 hP.l0 hP.s0 fl_X0_28 (by decide) (by decide) rfl hP.r7 ?_
    refine mw_ic hX 0 dX0_letGo_74 rfl ?_
    refine mw_dup2 hX dX0_letGo_75 ?_
    refine mw_iaload hX (j := 0) dX0_letGo_76 hP.l2 hP.s2 rfl (by decide) (by decide) ?_
    refine mw_aload_n hX dX0_letGo_77 rfl rfl ?_
    refine mw_getR hX dX0_letGo_78 hP.l0 hP.s0 fl_X0_31 (by decide) (by decide) rfl hP.r8 ?_
    refine mw_ic hX 0 dX0_letGo_81 rfl ?_
    refine mw_iaload hX (j := 0) dX0_letGo_82 hP.l3 hP.s3 rfl (by decide) (by decide) ?_
    refine mw_isub hX dX0_letGo_83 ?_
    refine mw_iastore hX (j := 0) dX0_letGo_84 hP.l2 hP.s2 rfl (by decide) (by decide) ?_
    refine mw_aload_n hX dX0_letGo_85 rfl rfl ?_
    refine mw_getR hX dX0_letGo_86 hP.l0 hP.s0 fl_X0_28 (by decide) (by decide) rfl hP.r7 ?_
    refine mw_ic hX 1 dX0_letGo_89 rfl ?_
    refine mw_dup2 hX dX0_letGo_90 ?_
    refine mw_iaload hX (j := 1) dX0_letGo_91 hP.l2 hP.s2 rfl (by decide) (by decide) ?_
    refine mw_aload_n hX dX0_letGo_92 rfl rfl ?_
    refine mw_getR hX dX0_letGo_93 hP.l0 hP.s0 fl_X0_31 (by decide) (by decide) rfl hP.r8 ?_
    refine mw_ic hX 1 dX0_letGo_96 rfl ?_
    refine mw_iaload hX (j := 1) dX0_letGo_97 hP.l3 hP.s3 rfl (by decide) (by decide) ?_
    refine mw_isub hX dX0_letGo_98 ?_
    refine mw_iastore hX (j := 1) dX0_letGo_99 hP.l2 hP.s2 rfl (by decide) (by decide) ?_
    exact mw_return hX hE dX0_letGo_100 (congrArg (fun z => Sum.inl (none, y, z, L)) (show goC (partsI I b (waterV I b)) b (waterV I b) = _ by rw [hJ, goC, show goA J b = _ from if_neg h29]; rfl)) (by omega) (by omega)
set_option maxRecDepth 20000 in
theorem c_spillOver (l : Launch) (y : mw_Y) (b : Nat) (hP : mw_isP y b)  (I : mw_I) (L : mw_L) : mw_CT l yX0_spillOver (.code yX0_spillOver cX0_spillOver 3 none) 4 0 0 [.ref b] (y, I, L) (.inl (none, y, spillI I b, L)) := by
  refine mw_enter RX0 rfl (by decide +kernel) (mw_cat rfl) (Nat.le_of_ble_eq_true rfl) (fun X hX hl hE hT hnm => ?_)
  subst hl
  show mw_G X 0 [some (.ref b), none, none] [] y I L 0 0
  refine mw_aload_n hX dX0_spillOver_0 rfl rfl ?_
  refine mw_cV hX [] ws_X0_61 dX0_spillOver_1 (c_waterInPond (mw_l X) y b hP I L) hP.l0 hP.s0 (by decide) rfl (by decide) (by omega) (by omega) (Nat.le_of_ble_eq_true rfl) ?_
  refine mw_aload_n hX dX0_spillOver_4 rfl rfl ?_
  refine mw_getI hX dX0_spillOver_5 hP.l0 hP.s0 fl_X0_9 (by decide) (by decide) rfl ?_
  refine mw_isub hX dX0_spillOver_8 ?_
  refine mw_istore_n hX dX0_spillOver_9 rfl (Nat.le_of_ble_eq_true rfl) ?_
  dsimp only [List.set]
  refine mw_iload_n hX dX0_spillOver_10 rfl rfl ?_
  refine mw_if_le hX (tgt := 49) dX0_spillOver_11 (by decide) (fun h11 => ?_) (fun h11 => ?_)
  · exact mw_return hX hE dX0_spillOver_49 (congrArg (fun z => Sum.inl (none, y, z, L)) (if_pos h11)) (by omega) (by omega)
  · refine mw_aload_n hX dX0_spillOver_14 rfl rfl ?_
    refine mw_cV hX [] ws_X0_87 dX0_spillOver_15 (c_ownerWithMore (mw_l X) y b hP _ L) hP.l0 hP.s0 (by decide) rfl (by decide) (by omega) (by omega) (Nat.le_of_ble_eq_true rfl) ?_
    refine mw_istore_n hX dX0_spillOver_18 rfl (Nat.le_of_ble_eq_true rfl) ?_
    dsimp only [List.set]
    refine mw_aload_n hX dX0_spillOver_19 rfl rfl ?_
    refine mw_getR hX dX0_spillOver_20 hP.l0 hP.s0 fl_X0_28 (by decide) (by decide) rfl hP.r7 ?_
    refine mw_iload_n hX dX0_spillOver_23 rfl rfl ?_
    refine mw_dup2 hX dX0_spillOver_24 ?_
    refine mw_iaload hX (j := moreV I b) dX0_spillOver_25 hP.l2 hP.s2 rfl (moreV_lt _ _) (by decide) ?_
    refine mw_iload_n hX dX0_spillOver_26 rfl rfl ?_
    refine mw_isub hX dX0_spillOver_27 ?_
    refine mw_iastore hX (j := moreV I b) dX0_spillOver_28 hP.l2 hP.s2 rfl (moreV_lt _ _) (by decide) ?_
    refine mw_aload_n hX dX0_spillOver_29 rfl rfl ?_
    refine mw_getR hX dX0_spillOver_30 hP.l0 hP.s0 fl_X0_31 (by decide) (by decide) rfl hP.r8 ?_
    refine mw_iload_n hX dX0_spillOver_33 rfl rfl ?_
    refine mw_dup2 hX dX0_spillOver_34 ?_
    refine mw_iaload hX (j := moreV I b) dX0_spillOver_35 hP.l3 hP.s3 rfl (moreV_lt _ _) (by decide) ?_
    refine mw_iload_n hX dX0_spillOver_36 rfl rfl ?_
    refine mw_iadd hX dX0_spillOver_37 ?_
    refine mw_iastore hX (j := moreV I b) dX0_spillOver_38 hP.l3 hP.s3 rfl (moreV_lt _ _) (by decide) ?_
    refine mw_aload_n hX dX0_spillOver_39 rfl rfl ?_
    refine mw_dupR hX dX0_spillOver_40 ?_
    refine mw_getI hX dX0_spillOver_41 hP.l0 hP.s0 fl_X0_93 (by decide) (by decide) rfl ?_
    refine mw_iload_n hX dX0_spillOver_44 rfl rfl ?_
    refine mw_iadd hX dX0_spillOver_45 ?_
    refine mw_putI hX dX0_spillOver_46 hP.l0 hP.s0 fl_X0_93 (by decide) (by decide) rfl ?_
    exact mw_return hX hE dX0_spillOver_49 (congrArg (fun z => Sum.inl (none, y, z, L)) (if_neg h11)) (by omega) (by omega)
set_option maxRecDepth 20000 in
theorem c_findMixes (l : Launch) (y : mw_Y) (b : Nat) (hP : mw_isP y b)  (I : mw_I) (L : mw_L) : mw_CT l yX0_findMixes (.code yX0_findMixes cX0_findMixes 4 none) 2 0 0 [.ref b] (y, I, L) (.inl (none, y, mixI I b, L)) := by
  refine mw_enter RX0 rfl (by decide +kernel) (mw_cat rfl) (Nat.le_of_ble_eq_true rfl) (fun X hX hl hE hT hnm => ?_)
  subst hl
  show mw_G X 0 [some (.ref b), none, none, none] [] y I L 0 0
  refine mw_ic hX 0 dX0_findMixes_0 rfl ?_
  refine mw_istore_n hX dX0_findMixes_1 rfl (Nat.le_of_ble_eq_true rfl) ?_
  dsimp only [List.set]
  refine lp_dn (P := fun k => mw_G X 2 [some (.ref b), some (.int (nI (k))), none, none] [] y (lpN (fun k J => mw_up J (b + 10) k 0) k I) (L) 0 0) 0 17 ?_ ?_ 0 (Nat.le_refl _) (by omega)
  · show mw_G X 2 [some (.ref b), some (.int (nI (17))), none, none] [] y (lpN (fun k J => mw_up J (b + 10) k 0) 17 I) (L) 0 0
    refine mw_iload_n hX dX0_findMixes_2 rfl rfl ?_
    refine mw_bp hX 16 dX0_findMixes_3 rfl ?_
    refine mw_icmp_gt hX (tgt := 21) dX0_findMixes_5 (by decide) (fun h5 => ?_) (fun h5 => ?_)
    · refine mw_ic hX 0 dX0_findMixes_21 rfl ?_
      refine mw_istore_n hX dX0_findMixes_22 rfl (Nat.le_of_ble_eq_true rfl) ?_
      dsimp only [List.set]
      refine mw_drop 2 ?_
      dsimp only [List.set]
      refine mw_drop 3 ?_
      dsimp only [List.set]
      refine lp_dn (P := fun a => mw_G X 23 [some (.ref b), some (.int (nI (a))), none, none] [] y (lpN (fun a J => lpN (fun c J => mixS b a c J) 9 J) a (mixA I b)) (L) 0 0) 0 9 ?_ ?_ 0 (Nat.le_refl _) (by omega)
      · show mw_G X 23 [some (.ref b), some (.int (nI (9))), none, none] [] y (lpN (fun a J => lpN (fun c J => mixS b a c J) 9 J) 9 (mixA I b)) (L) 0 0
        refine mw_iload_n hX dX0_findMixes_23 rfl rfl ?_
        refine mw_bp hX 8 dX0_findMixes_24 rfl ?_
        refine mw_icmp_gt hX (tgt := 87) dX0_findMixes_26 (by decide) (fun h26 => ?_) (fun h26 => ?_)
        · refine mw_ic hX 1 dX0_findMixes_87 rfl ?_
          refine mw_istore_n hX dX0_findMixes_88 rfl (Nat.le_of_ble_eq_true rfl) ?_
          dsimp only [List.set]
          refine mw_drop 2 ?_
          dsimp only [List.set]
          refine mw_drop 3 ?_
          dsimp only [List.set]
          refine lp_dn (P := fun k => mw_G X 89 [some (.ref b), some (.int (nI (k + 1))), none, none] [] y (lpN (mixT b) k (mixB (mixA I b) b)) (L) 0 0) 0 16 ?_ ?_ 0 (Nat.le_refl _) (by omega)
          · show mw_G X 89 [some (.ref b), some (.int (nI (17))), none, none] [] y (lpN (mixT b) 16 (mixB (mixA I b) b)) (L) 0 0
            refine mw_iload_n hX dX0_findMixes_89 rfl rfl ?_
            refine mw_bp hX 16 dX0_findMixes_90 rfl ?_
            refine mw_icmp_gt hX (tgt := 124) dX0_findMixes_92 (by decide) (fun h92 => ?_) (fun h92 => ?_)
            · exact mw_return hX hE dX0_findMixes_124 (rfl) (by omega) (by omega)
            · exact absurd (nI_lt (a := 16) (b := 17) (by omega) (by omega)) h92
          · intro k hsk hk ihk
            show mw_G X 89 [some (.ref b), some (.int (nI (k + 1))), none, none] [] y (lpN (mixT b) k (mixB (mixA I b) b)) (L) 0 0
            refine mw_iload_n hX dX0_findMixes_89 rfl rfl ?_
            refine mw_bp hX 16 dX0_findMixes_90 rfl ?_
            refine mw_icmp_gt hX (tgt := 124) dX0_findMixes_92 (by decide) (fun h92 => ?_) (fun h92 => ?_)
            · exact absurd h92 (nI_nlt (a := 16) (b := k + 1) (by omega) (by omega))
            · refine mw_aload_n hX dX0_findMixes_95 rfl rfl ?_
              refine mw_getR hX dX0_findMixes_96 hP.l0 hP.s0 fl_X0_42 (by decide) (by decide) rfl hP.r11 ?_
              refine mw_iload_n hX dX0_findMixes_99 rfl rfl ?_
              refine mw_aload_n hX dX0_findMixes_100 rfl rfl ?_
              refine mw_getR hX dX0_findMixes_101 hP.l0 hP.s0 fl_X0_42 (by decide) (by decide) rfl hP.r11 ?_
              refine mw_iload_n hX dX0_findMixes_104 rfl rfl ?_
              refine mw_iaload hX (j := k + 1) dX0_findMixes_105 hP.l10 hP.s10 (by simp only [mw_n0, mw_n1, mw_n2, mw_n3, mw_n4, mw_n5, mw_n6, mw_n8, mw_n9, mw_n18, mw_n210, mw_n260, pk_mul, nI_add]) (by omega) (by decide) ?_
              refine mw_aload_n hX dX0_findMixes_106 rfl rfl ?_
              refine mw_getR hX dX0_findMixes_107 hP.l0 hP.s0 fl_X0_42 (by decide) (by decide) rfl hP.r11 ?_
              refine mw_iload_n hX dX0_findMixes_110 rfl rfl ?_
              refine mw_ic hX 1 dX0_findMixes_111 rfl ?_
              refine mw_isub hX dX0_findMixes_112 ?_
              refine mw_iaload hX (j := k) dX0_findMixes_113 hP.l10 hP.s10 (nI_pred k) (by omega) (by decide) ?_
              refine mw_cS hX [_, _] ws_X0_48 dX0_findMixes_114 (c_max (mw_l X) _ _ y _ L) rfl (by decide) (by omega) (by omega) (Nat.le_of_ble_eq_true rfl) ?_
              refine mw_iastore hX (j := k + 1) dX0_findMixes_117 hP.l10 hP.s10 (by simp only [mw_n0, mw_n1, mw_n2, mw_n3, mw_n4, mw_n5, mw_n6, mw_n8, mw_n9, mw_n18, mw_n210, mw_n260, pk_mul, nI_add]) (by omega) (by decide) ?_
              refine mw_inc hX (nI (k + 1 + 1)) dX0_findMixes_118 rfl (mw_inc1 _) ?_
              dsimp only [List.set]
              refine mw_goto hX (tgt := 89) dX0_findMixes_121 (by decide) ?_
              refine mw_drop 2 ?_
              dsimp only [List.set]
              refine mw_drop 3 ?_
              dsimp only [List.set]
              exact ihk
        · exact absurd (nI_lt (a := 8) (b := 9) (by omega) (by omega)) h26
      · intro a hsa ha iha
        show mw_G X 23 [some (.ref b), some (.int (nI (a))), none, none] [] y (lpN (fun a J => lpN (fun c J => mixS b a c J) 9 J) a (mixA I b)) (L) 0 0
        refine mw_iload_n hX dX0_findMixes_23 rfl rfl ?_
        refine mw_bp hX 8 dX0_findMixes_24 rfl ?_
        refine mw_icmp_gt hX (tgt := 87) dX0_findMixes_26 (by decide) (fun h26 => ?_) (fun h26 => ?_)
        · exact absurd h26 (nI_nlt (a := 8) (b := a) (by omega) (by omega))
        · refine mw_ic hX 0 dX0_findMixes_29 rfl ?_
          refine mw_istore_n hX dX0_findMixes_30 rfl (Nat.le_of_ble_eq_true rfl) ?_
          dsimp only [List.set]
          refine mw_drop 3 ?_
          dsimp only [List.set]
          refine lp_dn (P := fun c => mw_G X 31 [some (.ref b), some (.int (nI a)), some (.int (nI (c))), none] [] y (lpN (fun c J => mixS b a c J) c (lpN (fun a J => lpN (fun c J => mixS b a c J) 9 J) a (mixA I b))) (L) 0 0) 0 9 ?_ ?_ 0 (Nat.le_refl _) (by omega)
          · show mw_G X 31 [some (.ref b), some (.int (nI a)), some (.int (nI (9))), none] [] y (lpN (fun c J => mixS b a c J) 9 (lpN (fun a J => lpN (fun c J => mixS b a c J) 9 J) a (mixA I b))) (L) 0 0
            refine mw_iload_n hX dX0_findMixes_31 rfl rfl ?_
            refine mw_bp hX 8 dX0_findMixes_32 rfl ?_
            refine mw_icmp_gt hX (tgt := 81) dX0_findMixes_34 (by decide) (fun h34 => ?_) (fun h34 => ?_)
            · refine mw_inc hX (nI (a + 1)) dX0_findMixes_81 rfl (mw_inc1 _) ?_
              dsimp only [List.set]
              refine mw_goto hX (tgt := 23) dX0_findMixes_84 (by decide) ?_
              refine mw_drop 2 ?_
              dsimp only [List.set]
              refine mw_drop 3 ?_
              dsimp only [List.set]
              exact iha
            · exact absurd (nI_lt (a := 8) (b := 9) (by omega) (by omega)) h34
          · intro c hsc hc ihc
            show mw_G X 31 [some (.ref b), some (.int (nI a)), some (.int (nI (c))), none] [] y (lpN (fun c J => mixS b a c J) c (lpN (fun a J => lpN (fun c J => mixS b a c J) 9 J) a (mixA I b))) (L) 0 0
            refine mw_iload_n hX dX0_findMixes_31 rfl rfl ?_
            refine mw_bp hX 8 dX0_findMixes_32 rfl ?_
            refine mw_icmp_gt hX (tgt := 81) dX0_findMixes_34 (by decide) (fun h34 => ?_) (fun h34 => ?_)
            · exact absurd h34 (nI_nlt (a := 8) (b := c) (by omega) (by omega))
            · refine mw_aload_n hX dX0_findMixes_37 rfl rfl ?_
              refine mw_getR hX dX0_findMixes_38 hP.l0 hP.s0 fl_X0_39 (by decide) (by decide) rfl hP.r10 ?_
              refine mw_ic hX 0 dX0_findMixes_41 rfl ?_
              refine mw_aaloadR hX (j := 0) dX0_findMixes_42 hP.l7 hP.s7 rfl (by decide) (by decide) (hP.yy (by omega)) ?_
              refine mw_iload_n hX dX0_findMixes_43 rfl rfl ?_
              refine mw_iaload hX (j := a) dX0_findMixes_44 (hP.l8 (o := 0) (by omega)) (hP.s8 (o := 0) (by omega)) rfl (by omega) (by decide) ?_
              refine mw_aload_n hX dX0_findMixes_45 rfl rfl ?_
              refine mw_getR hX dX0_findMixes_46 hP.l0 hP.s0 fl_X0_39 (by decide) (by decide) rfl hP.r10 ?_
              refine mw_ic hX 1 dX0_findMixes_49 rfl ?_
              refine mw_aaloadR hX (j := 1) dX0_findMixes_50 hP.l7 hP.s7 rfl (by decide) (by decide) (hP.yy (by omega)) ?_
              refine mw_iload_n hX dX0_findMixes_51 rfl rfl ?_
              refine mw_iaload hX (j := c) dX0_findMixes_52 (hP.l8 (o := 1) (by omega)) (hP.s8 (o := 1) (by omega)) rfl (by omega) (by decide) ?_
              refine mw_iadd hX dX0_findMixes_53 ?_
              refine mw_istore_n hX dX0_findMixes_54 rfl (Nat.le_of_ble_eq_true rfl) ?_
              dsimp only [List.set]
              refine mw_aload_n hX dX0_findMixes_55 rfl rfl ?_
              refine mw_getR hX dX0_findMixes_56 hP.l0 hP.s0 fl_X0_42 (by decide) (by decide) rfl hP.r11 ?_
              refine mw_iload_n hX dX0_findMixes_59 rfl rfl ?_
              refine mw_iload_n hX dX0_findMixes_60 rfl rfl ?_
              refine mw_iadd hX dX0_findMixes_61 ?_
              refine mw_aload_n hX dX0_findMixes_62 rfl rfl ?_
              refine mw_getR hX dX0_findMixes_63 hP.l0 hP.s0 fl_X0_42 (by decide) (by decide) rfl hP.r11 ?_
              refine mw_iload_n hX dX0_findMixes_66 rfl rfl ?_
              refine mw_iload_n hX dX0_findMixes_67 rfl rfl ?_
              refine mw_iadd hX dX0_findMixes_68 ?_
              refine mw_iaload hX (j := a + c) dX0_findMixes_69 hP.l10 hP.s10 (by simp only [mw_n0, mw_n1, mw_n2, mw_n3, mw_n4, mw_n5, mw_n6, mw_n8, mw_n9, mw_n18, mw_n210, mw_n260, pk_mul, nI_add]) (by omega) (by decide) ?_
              refine mw_iload_n hX dX0_findMixes_70 rfl rfl ?_
              refine mw_cS hX [_, _] ws_X0_48 dX0_findMixes_71 (c_max (mw_l X) _ _ y _ L) rfl (by decide) (by omega) (by omega) (Nat.le_of_ble_eq_true rfl) ?_
              refine mw_iastore hX (j := a + c) dX0_findMixes_74 hP.l10 hP.s10 (by simp only [mw_n0, mw_n1, mw_n2, mw_n3, mw_n4, mw_n5, mw_n6, mw_n8, mw_n9, mw_n18, mw_n210, mw_n260, pk_mul, nI_add]) (by omega) (by decide) ?_
              refine mw_inc hX (nI (c + 1)) dX0_findMixes_75 rfl (mw_inc1 _) ?_
              dsimp only [List.set]
              refine mw_goto hX (tgt := 31) dX0_findMixes_78 (by decide) ?_
              refine mw_drop 3 ?_
              dsimp only [List.set]
              exact ihc
    · exact absurd (nI_lt (a := 16) (b := 17) (by omega) (by omega)) h5
  · intro k hsk hk ihk
    show mw_G X 2 [some (.ref b), some (.int (nI (k))), none, none] [] y (lpN (fun k J => mw_up J (b + 10) k 0) k I) (L) 0 0
    refine mw_iload_n hX dX0_findMixes_2 rfl rfl ?_
    refine mw_bp hX 16 dX0_findMixes_3 rfl ?_
    refine mw_icmp_gt hX (tgt := 21) dX0_findMixes_5 (by decide) (fun h5 => ?_) (fun h5 => ?_)
    · exact absurd h5 (nI_nlt (a := 16) (b := k) (by omega) (by omega))
    · refine mw_aload_n hX dX0_findMixes_8 rfl rfl ?_
      refine mw_getR hX dX0_findMixes_9 hP.l0 hP.s0 fl_X0_42 (by decide) (by decide) rfl hP.r11 ?_
      refine mw_iload_n hX dX0_findMixes_12 rfl rfl ?_
      refine mw_ic hX 0 dX0_findMixes_13 rfl ?_
      refine mw_iastore hX (j := k) dX0_findMixes_14 hP.l10 hP.s10 rfl (by omega) (by decide) ?_
      refine mw_inc hX (nI (k + 1)) dX0_findMixes_15 rfl (mw_inc1 _) ?_
      dsimp only [List.set]
      refine mw_goto hX (tgt := 2) dX0_findMixes_18 (by decide) ?_
      exact ihk
