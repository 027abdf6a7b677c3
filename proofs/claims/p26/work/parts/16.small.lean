/-! checks of arguments; the JDK's three; Plant's small methods (by program: wip/whole/gen16.py) -/
set_option maxRecDepth 20000 in
theorem c_checkRange (l : Launch) (v lo hi : Int32) (h : okR v lo hi) (y : mw_Y) (I : mw_I) (L : mw_L) : mw_CT l yX1_checkRange (.code yX1_checkRange cX1_checkRange 3 none) 1 1 6 [.int v, .int lo, .int hi] (y, I, L) (.inl (none, y, I, L)) := by
  refine mw_enter RX1 rfl (by decide +kernel) (mw_cat rfl) (Nat.le_of_ble_eq_true rfl) (fun X hX hl hE hT hnm => ?_)
  subst hl
  show mw_G X 0 [some (.int v), some (.int lo), some (.int hi)] [] y I L 0 0
  refine mw_iload_n hX dX1_checkRange_0 rfl rfl ?_
  refine mw_iload_n hX dX1_checkRange_1 rfl rfl ?_
  refine mw_icmp_lt hX (tgt := 10) dX1_checkRange_2 (by decide) (fun h2 => ?_) (fun h2 => ?_)
  · exact absurd h2 h.1
  · refine mw_iload_n hX dX1_checkRange_5 rfl rfl ?_
    refine mw_iload_n hX dX1_checkRange_6 rfl rfl ?_
    refine mw_icmp_le hX (tgt := 20) dX1_checkRange_7 (by decide) (fun h7 => ?_) (fun h7 => ?_)
    · exact mw_return hX hE dX1_checkRange_20 (rfl) (by omega) (by omega)
    · exact absurd h7 (fun q => q h.2)
set_option maxRecDepth 20000 in
theorem c_checkRangeX (l : Launch) (v lo hi : Int32) (h : ¬ okR v lo hi) (y : mw_Y) (I : mw_I) (L : mw_L) : mw_CT l yX1_checkRange (.code yX1_checkRange cX1_checkRange 3 none) 1 1 6 [.int v, .int lo, .int hi] (y, I, L) (.inr "java/lang/IllegalArgumentException") := by
  refine mw_enter RX1 rfl (by decide +kernel) (mw_cat rfl) (Nat.le_of_ble_eq_true rfl) (fun X hX hl hE hT hnm => ?_)
  subst hl
  show mw_G X 0 [some (.int v), some (.int lo), some (.int hi)] [] y I L 0 0
  refine mw_iload_n hX dX1_checkRange_0 rfl rfl ?_
  refine mw_iload_n hX dX1_checkRange_1 rfl rfl ?_
  refine mw_icmp_lt hX (tgt := 10) dX1_checkRange_2 (by decide) (fun h2 => ?_) (fun h2 => ?_)
  · exact mw_throw hX hE hT th_137 dX1_checkRange_10 dX1_checkRange_13 dX1_checkRange_14 dX1_checkRange_16 dX1_checkRange_19 (rfl) (by omega) (by omega) (by omega) (by omega) (Nat.le_of_ble_eq_true rfl)
  · refine mw_iload_n hX dX1_checkRange_5 rfl rfl ?_
    refine mw_iload_n hX dX1_checkRange_6 rfl rfl ?_
    refine mw_icmp_le hX (tgt := 20) dX1_checkRange_7 (by decide) (fun h7 => ?_) (fun h7 => ?_)
    · exact absurd ⟨h2, h7⟩ h
    · exact mw_throw hX hE hT th_137 dX1_checkRange_10 dX1_checkRange_13 dX1_checkRange_14 dX1_checkRange_16 dX1_checkRange_19 (rfl) (by omega) (by omega) (by omega) (by omega) (Nat.le_of_ble_eq_true rfl)
set_option maxRecDepth 20000 in
theorem c_checkPlant (l : Launch) (v : Int32) (h : okR v 0 2) (y : mw_Y) (I : mw_I) (L : mw_L) : mw_CT l yX1_checkPlant (.code yX1_checkPlant cX1_checkPlant 1 none) 2 1 6 [.int v] (y, I, L) (.inl (none, y, I, L)) := by
  refine mw_enter RX1 rfl (by decide +kernel) (mw_cat rfl) (Nat.le_of_ble_eq_true rfl) (fun X hX hl hE hT hnm => ?_)
  subst hl
  show mw_G X 0 [some (.int v)] [] y I L 0 0
  refine mw_iload_n hX dX1_checkPlant_0 rfl rfl ?_
  refine mw_ic hX 0 dX1_checkPlant_1 rfl ?_
  refine mw_ic hX 2 dX1_checkPlant_2 rfl ?_
  refine mw_cS hX [_, _, _] ws_X1_36 dX1_checkPlant_3 (c_checkRange (mw_l X) v 0 2 h y I L) rfl (by decide) (by omega) (by omega) (Nat.le_of_ble_eq_true rfl) ?_
  exact mw_return hX hE dX1_checkPlant_6 (rfl) (by omega) (by omega)
set_option maxRecDepth 20000 in
theorem c_checkPlantX (l : Launch) (v : Int32) (h : ¬ okR v 0 2) (y : mw_Y) (I : mw_I) (L : mw_L) : mw_CT l yX1_checkPlant (.code yX1_checkPlant cX1_checkPlant 1 none) 2 1 6 [.int v] (y, I, L) (.inr "java/lang/IllegalArgumentException") := by
  refine mw_enter RX1 rfl (by decide +kernel) (mw_cat rfl) (Nat.le_of_ble_eq_true rfl) (fun X hX hl hE hT hnm => ?_)
  subst hl
  show mw_G X 0 [some (.int v)] [] y I L 0 0
  refine mw_iload_n hX dX1_checkPlant_0 rfl rfl ?_
  refine mw_ic hX 0 dX1_checkPlant_1 rfl ?_
  refine mw_ic hX 2 dX1_checkPlant_2 rfl ?_
  exact mw_cSX hX hE hT [_, _, _] ws_X1_36 dX1_checkPlant_3 (c_checkRangeX (mw_l X) v 0 2 h y I L) rfl (by decide) (by omega) (by omega) (Nat.le_of_ble_eq_true rfl) (rfl) (by omega) (by omega)
set_option maxRecDepth 20000 in
theorem c_checkLowerPlant (l : Launch) (v : Int32) (h : okR v 1 2) (y : mw_Y) (I : mw_I) (L : mw_L) : mw_CT l yX1_checkLowerPlant (.code yX1_checkLowerPlant cX1_checkLowerPlant 1 none) 2 1 6 [.int v] (y, I, L) (.inl (none, y, I, L)) := by
  refine mw_enter RX1 rfl (by decide +kernel) (mw_cat rfl) (Nat.le_of_ble_eq_true rfl) (fun X hX hl hE hT hnm => ?_)
  subst hl
  show mw_G X 0 [some (.int v)] [] y I L 0 0
  refine mw_iload_n hX dX1_checkLowerPlant_0 rfl rfl ?_
  refine mw_ic hX 1 dX1_checkLowerPlant_1 rfl ?_
  refine mw_ic hX 2 dX1_checkLowerPlant_2 rfl ?_
  refine mw_cS hX [_, _, _] ws_X1_36 dX1_checkLowerPlant_3 (c_checkRange (mw_l X) v 1 2 h y I L) rfl (by decide) (by omega) (by omega) (Nat.le_of_ble_eq_true rfl) ?_
  exact mw_return hX hE dX1_checkLowerPlant_6 (rfl) (by omega) (by omega)
set_option maxRecDepth 20000 in
theorem c_checkLowerPlantX (l : Launch) (v : Int32) (h : ¬ okR v 1 2) (y : mw_Y) (I : mw_I) (L : mw_L) : mw_CT l yX1_checkLowerPlant (.code yX1_checkLowerPlant cX1_checkLowerPlant 1 none) 2 1 6 [.int v] (y, I, L) (.inr "java/lang/IllegalArgumentException") := by
  refine mw_enter RX1 rfl (by decide +kernel) (mw_cat rfl) (Nat.le_of_ble_eq_true rfl) (fun X hX hl hE hT hnm => ?_)
  subst hl
  show mw_G X 0 [some (.int v)] [] y I L 0 0
  refine mw_iload_n hX dX1_checkLowerPlant_0 rfl rfl ?_
  refine mw_ic hX 1 dX1_checkLowerPlant_1 rfl ?_
  refine mw_ic hX 2 dX1_checkLowerPlant_2 rfl ?_
  exact mw_cSX hX hE hT [_, _, _] ws_X1_36 dX1_checkLowerPlant_3 (c_checkRangeX (mw_l X) v 1 2 h y I L) rfl (by decide) (by omega) (by omega) (Nat.le_of_ble_eq_true rfl) (rfl) (by omega) (by omega)
set_option maxRecDepth 20000 in
theorem c_checkOwner (l : Launch) (v : Int32) (h : okR v 0 1) (y : mw_Y) (I : mw_I) (L : mw_L) : mw_CT l yX1_checkOwner (.code yX1_checkOwner cX1_checkOwner 1 none) 2 1 6 [.int v] (y, I, L) (.inl (none, y, I, L)) := by
  refine mw_enter RX1 rfl (by decide +kernel) (mw_cat rfl) (Nat.le_of_ble_eq_true rfl) (fun X hX hl hE hT hnm => ?_)
  subst hl
  show mw_G X 0 [some (.int v)] [] y I L 0 0
  refine mw_iload_n hX dX1_checkOwner_0 rfl rfl ?_
  refine mw_ic hX 0 dX1_checkOwner_1 rfl ?_
  refine mw_ic hX 1 dX1_checkOwner_2 rfl ?_
  refine mw_cS hX [_, _, _] ws_X1_36 dX1_checkOwner_3 (c_checkRange (mw_l X) v 0 1 h y I L) rfl (by decide) (by omega) (by omega) (Nat.le_of_ble_eq_true rfl) ?_
  exact mw_return hX hE dX1_checkOwner_6 (rfl) (by omega) (by omega)
set_option maxRecDepth 20000 in
theorem c_checkOwnerX (l : Launch) (v : Int32) (h : ¬ okR v 0 1) (y : mw_Y) (I : mw_I) (L : mw_L) : mw_CT l yX1_checkOwner (.code yX1_checkOwner cX1_checkOwner 1 none) 2 1 6 [.int v] (y, I, L) (.inr "java/lang/IllegalArgumentException") := by
  refine mw_enter RX1 rfl (by decide +kernel) (mw_cat rfl) (Nat.le_of_ble_eq_true rfl) (fun X hX hl hE hT hnm => ?_)
  subst hl
  show mw_G X 0 [some (.int v)] [] y I L 0 0
  refine mw_iload_n hX dX1_checkOwner_0 rfl rfl ?_
  refine mw_ic hX 0 dX1_checkOwner_1 rfl ?_
  refine mw_ic hX 1 dX1_checkOwner_2 rfl ?_
  exact mw_cSX hX hE hT [_, _, _] ws_X1_36 dX1_checkOwner_3 (c_checkRangeX (mw_l X) v 0 1 h y I L) rfl (by decide) (by omega) (by omega) (Nat.le_of_ble_eq_true rfl) (rfl) (by omega) (by omega)
set_option maxRecDepth 20000 in
theorem c_max (l : Launch) (a b : Int32) (y : mw_Y) (I : mw_I) (L : mw_L) : mw_CT l yJ9_max_7cf53 (.code yJ9_max_7cf53 cJ9_max_7cf53 2 (some .int)) 1 0 0 [.int a, .int b] (y, I, L) (.inl (some (.int (if a < b then b else a)), y, I, L)) := by
  refine mw_enterF RJ9 rfl (by decide +kernel) (mw_cat rfl) (Nat.le_of_ble_eq_true rfl) (fun X hX hl hE hT hnm => ?_)
  subst hl
  show mw_G X 0 [some (.int a), some (.int b)] [] y I L 0 0
  refine mw_iload_n hX dJ9_max_7cf53_0 rfl rfl ?_
  refine mw_iload_n hX dJ9_max_7cf53_1 rfl rfl ?_
  refine mw_icmp_lt hX (tgt := 9) dJ9_max_7cf53_2 (by decide) (fun h2 => ?_) (fun h2 => ?_)
  · refine mw_iload_n hX dJ9_max_7cf53_9 rfl rfl ?_
    exact mw_ireturn hX hE dJ9_max_7cf53_10 (by simp [h2]) (by omega) (by omega)
  · refine mw_iload_n hX dJ9_max_7cf53_5 rfl rfl ?_
    refine mw_goto hX (tgt := 10) dJ9_max_7cf53_6 (by decide) ?_
    exact mw_ireturn hX hE dJ9_max_7cf53_10 (by simp [h2]) (by omega) (by omega)
set_option maxRecDepth 20000 in
theorem c_min (l : Launch) (a b : Int32) (y : mw_Y) (I : mw_I) (L : mw_L) : mw_CT l yJ9_min_7cf53 (.code yJ9_min_7cf53 cJ9_min_7cf53 2 (some .int)) 1 0 0 [.int a, .int b] (y, I, L) (.inl (some (.int (if b < a then b else a)), y, I, L)) := by
  refine mw_enterF RJ9 rfl (by decide +kernel) (mw_cat rfl) (Nat.le_of_ble_eq_true rfl) (fun X hX hl hE hT hnm => ?_)
  subst hl
  show mw_G X 0 [some (.int a), some (.int b)] [] y I L 0 0
  refine mw_iload_n hX dJ9_min_7cf53_0 rfl rfl ?_
  refine mw_iload_n hX dJ9_min_7cf53_1 rfl rfl ?_
  refine mw_icmp_gt hX (tgt := 9) dJ9_min_7cf53_2 (by decide) (fun h2 => ?_) (fun h2 => ?_)
  · refine mw_iload_n hX dJ9_min_7cf53_9 rfl rfl ?_
    exact mw_ireturn hX hE dJ9_min_7cf53_10 (by simp [h2]) (by omega) (by omega)
  · refine mw_iload_n hX dJ9_min_7cf53_5 rfl rfl ?_
    refine mw_goto hX (tgt := 10) dJ9_min_7cf53_6 (by decide) ?_
    exact mw_ireturn hX hE dJ9_min_7cf53_10 (by simp [h2]) (by omega) (by omega)
theorem mw_xor0 {n : Nat} (h : n < 1000) : 0 ≤ (nI n ^^^ (6 : Int32)) := by
  have e : nI n ^^^ (6 : Int32) = nI (n ^^^ 6) := by
    apply Int32.toBitVec_inj.mp
    show BitVec.ofNat 32 n ^^^ BitVec.ofNat 32 6 = BitVec.ofNat 32 (n ^^^ 6)
    exact (BitVec.ofNat_xor (w := 32) (x := n) (y := 6)).symm
  rw [e]
  exact nI_pos' (Nat.lt_of_lt_of_le (Nat.xor_lt_two_pow (n := 10) (by omega) (by omega)) (by decide))
set_option maxRecDepth 20000 in
theorem c_floorMod (l : Launch) (n : Nat) (h : n < 1000) (y : mw_Y) (I : mw_I) (L : mw_L) : mw_CT l yJ9_floorMod_7cf53 (.code yJ9_floorMod_7cf53 cJ9_floorMod_7cf53 3 (some .int)) 1 0 0 [.int (nI n), .int 6] (y, I, L) (.inl (some (.int (nI (n % 6))), y, I, L)) := by
  refine mw_enterF RJ9 rfl (by decide +kernel) (mw_cat rfl) (Nat.le_of_ble_eq_true rfl) (fun X hX hl hE hT hnm => ?_)
  subst hl
  show mw_G X 0 [some (.int (nI n)), some (.int 6), none] [] y I L 0 0
  refine mw_iload_n hX dJ9_floorMod_7cf53_0 rfl rfl ?_
  refine mw_iload_n hX dJ9_floorMod_7cf53_1 rfl rfl ?_
  refine mw_irem hX (by decide) dJ9_floorMod_7cf53_2 ?_
  refine mw_istore_n hX dJ9_floorMod_7cf53_3 rfl (Nat.le_of_ble_eq_true rfl) ?_
  dsimp only [List.set]
  refine mw_iload_n hX dJ9_floorMod_7cf53_4 rfl rfl ?_
  refine mw_iload_n hX dJ9_floorMod_7cf53_5 rfl rfl ?_
  refine mw_ixor hX dJ9_floorMod_7cf53_6 ?_
  refine mw_if_ge hX (tgt := 18) dJ9_floorMod_7cf53_7 (by decide) (fun h7 => ?_) (fun h7 => ?_)
  · refine mw_iload_n hX dJ9_floorMod_7cf53_18 rfl rfl ?_
    exact mw_ireturn hX hE dJ9_floorMod_7cf53_19 (by rw [mw_n6, pk_rem (by omega) (by omega) (by omega)]) (by omega) (by omega)
  · exact absurd h7 (fun q => q (mw_xor0 h))
set_option maxRecDepth 20000 in
theorem c_slotOf (l : Launch) (n : Nat) (h : n < 1000) (y : mw_Y) (I : mw_I) (L : mw_L) : mw_CT l yX1_slotOf (.code yX1_slotOf cX1_slotOf 1 (some .int)) 2 0 0 [.int (nI n)] (y, I, L) (.inl (some (.int (nI (n % 6))), y, I, L)) := by
  refine mw_enter RX1 rfl (by decide +kernel) (mw_cat rfl) (Nat.le_of_ble_eq_true rfl) (fun X hX hl hE hT hnm => ?_)
  subst hl
  show mw_G X 0 [some (.int (nI n))] [] y I L 0 0
  refine mw_iload_n hX dX1_slotOf_0 rfl rfl ?_
  refine mw_bp hX 6 dX1_slotOf_1 rfl ?_
  refine mw_cS hX [_, _] ws_X1_140 dX1_slotOf_3 (c_floorMod (mw_l X) n h y I L) rfl (by decide) (by omega) (by omega) (Nat.le_of_ble_eq_true rfl) ?_
  exact mw_ireturn hX hE dX1_slotOf_6 (rfl) (by omega) (by omega)
def mixForV (I : mw_I) (b : Nat) (f : Int32) : Int32 := if f < 0 ∨ 16 < f then 0 else I (b + 10) f.toNatClampNeg
def waterV (I : mw_I) (b : Nat) : Int32 := I (b + 2) 0 + I (b + 2) 1
def energyV (I : mw_I) (b : Nat) (v f : Int32) : Int32 := mixForV I b f * (I b 1 + v / 5) / 10
def moreV (I : mw_I) (b : Nat) : Nat := if I (b + 2) 0 < I (b + 2) 1 then 1 else 0
def inflowV (I : mw_I) (b o : Nat) : Int32 := if o = 0 then I b 4 * I b 5 / 100 else I b 4 - I b 4 * I b 5 / 100
def leastV (I : mw_I) (b : Nat) (v : Int32) : Int32 := if 16 < (I b 3 + 4 - 1) / 4 * 4 ∨ v < (I b 3 + 4 - 1) / 4 * 4 then 0 else (I b 3 + 4 - 1) / 4 * 4
def behindV (I : mw_I) (b : Nat) (v r : Int32) : Int32 := if I b 0 < v - r then I b 0 else v - r
set_option maxRecDepth 20000 in
theorem c_mixFor (l : Launch) (y : mw_Y) (b : Nat) (hP : mw_isP y b) (f : Int32) (I : mw_I) (L : mw_L) : mw_CT l yX0_mixFor (.code yX0_mixFor cX0_mixFor 2 (some .int)) 1 0 0 [.ref b, .int f] (y, I, L) (.inl (some (.int (mixForV I b f)), y, I, L)) := by
  refine mw_enter RX0 rfl (by decide +kernel) (mw_cat rfl) (Nat.le_of_ble_eq_true rfl) (fun X hX hl hE hT hnm => ?_)
  subst hl
  show mw_G X 0 [some (.ref b), some (.int f)] [] y I L 0 0
  refine mw_iload_n hX dX0_mixFor_0 rfl rfl ?_
  refine mw_if_lt hX (tgt := 10) dX0_mixFor_1 (by decide) (fun h1 => ?_) (fun h1 => ?_)
  · refine mw_ic hX 0 dX0_mixFor_10 rfl ?_
    refine mw_goto hX (tgt := 20) dX0_mixFor_11 (by decide) ?_
    exact mw_ireturn hX hE dX0_mixFor_20 (by rw [mixForV, if_pos (Or.inl h1)]) (by omega) (by omega)
  · refine mw_iload_n hX dX0_mixFor_4 rfl rfl ?_
    refine mw_bp hX 16 dX0_mixFor_5 rfl ?_
    refine mw_icmp_le hX (tgt := 14) dX0_mixFor_7 (by decide) (fun h7 => ?_) (fun h7 => ?_)
    · obtain ⟨j, hj, rfl⟩ := okR_nat (n := 16) (by decide) ⟨h1, h7⟩
      refine mw_aload_n hX dX0_mixFor_14 rfl rfl ?_
      refine mw_getR hX dX0_mixFor_15 hP.l0 hP.s0 fl_X0_42 (by decide) (by decide) rfl hP.r11 ?_
      refine mw_iload_n hX dX0_mixFor_18 rfl rfl ?_
      refine mw_iaload hX (j := j) dX0_mixFor_19 hP.l10 hP.s10 rfl (by omega) (by decide) ?_
      exact mw_ireturn hX hE dX0_mixFor_20 (by rw [mixForV, if_neg (fun q => q.elim h1 (fun q => absurd h7 (Int32.not_le.mpr q))), nI_clamp (by omega)]) (by omega) (by omega)
    · refine mw_ic hX 0 dX0_mixFor_10 rfl ?_
      refine mw_goto hX (tgt := 20) dX0_mixFor_11 (by decide) ?_
      exact mw_ireturn hX hE dX0_mixFor_20 (by rw [mixForV, if_pos (Or.inr (Int32.not_le.mp h7))]) (by omega) (by omega)
set_option maxRecDepth 20000 in
theorem c_waterInPond (l : Launch) (y : mw_Y) (b : Nat) (hP : mw_isP y b)  (I : mw_I) (L : mw_L) : mw_CT l yX0_waterInPond (.code yX0_waterInPond cX0_waterInPond 1 (some .int)) 1 0 0 [.ref b] (y, I, L) (.inl (some (.int (waterV I b)), y, I, L)) := by
  refine mw_enter RX0 rfl (by decide +kernel) (mw_cat rfl) (Nat.le_of_ble_eq_true rfl) (fun X hX hl hE hT hnm => ?_)
  subst hl
  show mw_G X 0 [some (.ref b)] [] y I L 0 0
  refine mw_aload_n hX dX0_waterInPond_0 rfl rfl ?_
  refine mw_getR hX dX0_waterInPond_1 hP.l0 hP.s0 fl_X0_28 (by decide) (by decide) rfl hP.r7 ?_
  refine mw_ic hX 0 dX0_waterInPond_4 rfl ?_
  refine mw_iaload hX (j := 0) dX0_waterInPond_5 hP.l2 hP.s2 rfl (by decide) (by decide) ?_
  refine mw_aload_n hX dX0_waterInPond_6 rfl rfl ?_
  refine mw_getR hX dX0_waterInPond_7 hP.l0 hP.s0 fl_X0_28 (by decide) (by decide) rfl hP.r7 ?_
  refine mw_ic hX 1 dX0_waterInPond_10 rfl ?_
  refine mw_iaload hX (j := 1) dX0_waterInPond_11 hP.l2 hP.s2 rfl (by decide) (by decide) ?_
  refine mw_iadd hX dX0_waterInPond_12 ?_
  exact mw_ireturn hX hE dX0_waterInPond_13 (rfl) (by omega) (by omega)
set_option maxRecDepth 20000 in
theorem c_energyAt (l : Launch) (y : mw_Y) (b : Nat) (hP : mw_isP y b) (v f : Int32) (I : mw_I) (L : mw_L) : mw_CT l yX0_energyAt (.code yX0_energyAt cX0_energyAt 3 (some .int)) 2 0 0 [.ref b, .int v, .int f] (y, I, L) (.inl (some (.int (energyV I b v f)), y, I, L)) := by
  refine mw_enter RX0 rfl (by decide +kernel) (mw_cat rfl) (Nat.le_of_ble_eq_true rfl) (fun X hX hl hE hT hnm => ?_)
  subst hl
  show mw_G X 0 [some (.ref b), some (.int v), some (.int f)] [] y I L 0 0
  refine mw_aload_n hX dX0_energyAt_0 rfl rfl ?_
  refine mw_iload_n hX dX0_energyAt_1 rfl rfl ?_
  refine mw_cV hX [_] ws_X0_54 dX0_energyAt_2 (c_mixFor (mw_l X) y b hP f I L) hP.l0 hP.s0 (by decide) rfl (by decide) (by omega) (by omega) (Nat.le_of_ble_eq_true rfl) ?_
  refine mw_aload_n hX dX0_energyAt_5 rfl rfl ?_
  refine mw_getI hX dX0_energyAt_6 hP.l0 hP.s0 fl_X0_15 (by decide) (by decide) rfl ?_
  refine mw_iload_n hX dX0_energyAt_9 rfl rfl ?_
  refine mw_ic hX 5 dX0_energyAt_10 rfl ?_
  refine mw_idiv hX (by decide) dX0_energyAt_11 ?_
  refine mw_iadd hX dX0_energyAt_12 ?_
  refine mw_imul hX dX0_energyAt_13 ?_
  refine mw_bp hX 10 dX0_energyAt_14 rfl ?_
  refine mw_idiv hX (by decide) dX0_energyAt_16 ?_
  exact mw_ireturn hX hE dX0_energyAt_17 (rfl) (by omega) (by omega)
set_option maxRecDepth 20000 in
theorem c_inflowOf (l : Launch) (y : mw_Y) (b : Nat) (hP : mw_isP y b) (o : Nat) (ho : o < 2) (I : mw_I) (L : mw_L) : mw_CT l yX0_inflowOf (.code yX0_inflowOf cX0_inflowOf 3 (some .int)) 1 0 0 [.ref b, .int (nI o)] (y, I, L) (.inl (some (.int (inflowV I b o)), y, I, L)) := by
  refine mw_enter RX0 rfl (by decide +kernel) (mw_cat rfl) (Nat.le_of_ble_eq_true rfl) (fun X hX hl hE hT hnm => ?_)
  subst hl
  show mw_G X 0 [some (.ref b), some (.int (nI o)), none] [] y I L 0 0
  refine mw_aload_n hX dX0_inflowOf_0 rfl rfl ?_
  refine mw_getI hX dX0_inflowOf_1 hP.l0 hP.s0 fl_X0_58 (by decide) (by decide) rfl ?_
  refine mw_aload_n hX dX0_inflowOf_4 rfl rfl ?_
  refine mw_getI hX dX0_inflowOf_5 hP.l0 hP.s0 fl_X0_21 (by decide) (by decide) rfl ?_
  refine mw_imul hX dX0_inflowOf_8 ?_
  refine mw_bp hX 100 dX0_inflowOf_9 rfl ?_
  refine mw_idiv hX (by decide) dX0_inflowOf_11 ?_
  refine mw_istore_n hX dX0_inflowOf_12 rfl (Nat.le_of_ble_eq_true rfl) ?_
  dsimp only [List.set]
  refine mw_iload_n hX dX0_inflowOf_13 rfl rfl ?_
  refine mw_if_ne hX (tgt := 21) dX0_inflowOf_14 (by decide) (fun h14 => ?_) (fun h14 => ?_)
  · refine mw_aload_n hX dX0_inflowOf_21 rfl rfl ?_
    refine mw_getI hX dX0_inflowOf_22 hP.l0 hP.s0 fl_X0_58 (by decide) (by decide) rfl ?_
    refine mw_iload_n hX dX0_inflowOf_25 rfl rfl ?_
    refine mw_isub hX dX0_inflowOf_26 ?_
    exact mw_ireturn hX hE dX0_inflowOf_27 (by rw [inflowV, if_neg (fun q => h14 (by rw [q]; rfl))]) (by omega) (by omega)
  · refine mw_iload_n hX dX0_inflowOf_17 rfl rfl ?_
    refine mw_goto hX (tgt := 27) dX0_inflowOf_18 (by decide) ?_
    exact mw_ireturn hX hE dX0_inflowOf_27 (by rw [inflowV, if_pos ((nI_eq (b := 0) (by omega) (by decide)).mp h14)]) (by omega) (by omega)
set_option maxRecDepth 20000 in
theorem c_ownerWithMore (l : Launch) (y : mw_Y) (b : Nat) (hP : mw_isP y b)  (I : mw_I) (L : mw_L) : mw_CT l yX0_ownerWithMore (.code yX0_ownerWithMore cX0_ownerWithMore 1 (some .int)) 1 0 0 [.ref b] (y, I, L) (.inl (some (.int (nI (moreV I b))), y, I, L)) := by
  refine mw_enter RX0 rfl (by decide +kernel) (mw_cat rfl) (Nat.le_of_ble_eq_true rfl) (fun X hX hl hE hT hnm => ?_)
  subst hl
  show mw_G X 0 [some (.ref b)] [] y I L 0 0
  refine mw_aload_n hX dX0_ownerWithMore_0 rfl rfl ?_
  refine mw_getR hX dX0_ownerWithMore_1 hP.l0 hP.s0 fl_X0_28 (by decide) (by decide) rfl hP.r7 ?_
  refine mw_ic hX 0 dX0_ownerWithMore_4 rfl ?_
  refine mw_iaload hX (j := 0) dX0_ownerWithMore_5 hP.l2 hP.s2 rfl (by decide) (by decide) ?_
  refine mw_aload_n hX dX0_ownerWithMore_6 rfl rfl ?_
  refine mw_getR hX dX0_ownerWithMore_7 hP.l0 hP.s0 fl_X0_28 (by decide) (by decide) rfl hP.r7 ?_
  refine mw_ic hX 1 dX0_ownerWithMore_10 rfl ?_
  refine mw_iaload hX (j := 1) dX0_ownerWithMore_11 hP.l2 hP.s2 rfl (by decide) (by decide) ?_
  refine mw_icmp_lt hX (tgt := 19) dX0_ownerWithMore_12 (by decide) (fun h12 => ?_) (fun h12 => ?_)
  · refine mw_ic hX 1 dX0_ownerWithMore_19 rfl ?_
    exact mw_ireturn hX hE dX0_ownerWithMore_20 (by rw [moreV, if_pos h12]; rfl) (by omega) (by omega)
  · refine mw_ic hX 0 dX0_ownerWithMore_15 rfl ?_
    refine mw_goto hX (tgt := 20) dX0_ownerWithMore_16 (by decide) ?_
    exact mw_ireturn hX hE dX0_ownerWithMore_20 (by rw [moreV, if_neg h12]; rfl) (by omega) (by omega)
set_option maxRecDepth 20000 in
theorem c_leastRelease (l : Launch) (y : mw_Y) (b : Nat) (hP : mw_isP y b) (v : Int32) (I : mw_I) (L : mw_L) : mw_CT l yX0_leastRelease (.code yX0_leastRelease cX0_leastRelease 3 (some .int)) 1 0 0 [.ref b, .int v] (y, I, L) (.inl (some (.int (leastV I b v)), y, I, L)) := by
  refine mw_enter RX0 rfl (by decide +kernel) (mw_cat rfl) (Nat.le_of_ble_eq_true rfl) (fun X hX hl hE hT hnm => ?_)
  subst hl
  show mw_G X 0 [some (.ref b), some (.int v), none] [] y I L 0 0
  refine mw_aload_n hX dX0_leastRelease_0 rfl rfl ?_
  refine mw_getI hX dX0_leastRelease_1 hP.l0 hP.s0 fl_X0_69 (by decide) (by decide) rfl ?_
  refine mw_ic hX 4 dX0_leastRelease_4 rfl ?_
  refine mw_iadd hX dX0_leastRelease_5 ?_
  refine mw_ic hX 1 dX0_leastRelease_6 rfl ?_
  refine mw_isub hX dX0_leastRelease_7 ?_
  refine mw_ic hX 4 dX0_leastRelease_8 rfl ?_
  refine mw_idiv hX (by decide) dX0_leastRelease_9 ?_
  refine mw_ic hX 4 dX0_leastRelease_10 rfl ?_
  refine mw_imul hX dX0_leastRelease_11 ?_
  refine mw_istore_n hX dX0_leastRelease_12 rfl (Nat.le_of_ble_eq_true rfl) ?_
  dsimp only [List.set]
  refine mw_iload_n hX dX0_leastRelease_13 rfl rfl ?_
  refine mw_bp hX 16 dX0_leastRelease_14 rfl ?_
  refine mw_icmp_gt hX (tgt := 24) dX0_leastRelease_16 (by decide) (fun h16 => ?_) (fun h16 => ?_)
  · refine mw_ic hX 0 dX0_leastRelease_24 rfl ?_
    refine mw_goto hX (tgt := 29) dX0_leastRelease_25 (by decide) ?_
    exact mw_ireturn hX hE dX0_leastRelease_29 (by rw [leastV, if_pos (Or.inl h16)]) (by omega) (by omega)
  · refine mw_iload_n hX dX0_leastRelease_19 rfl rfl ?_
    refine mw_iload_n hX dX0_leastRelease_20 rfl rfl ?_
    refine mw_icmp_le hX (tgt := 28) dX0_leastRelease_21 (by decide) (fun h21 => ?_) (fun h21 => ?_)
    · refine mw_iload_n hX dX0_leastRelease_28 rfl rfl ?_
      exact mw_ireturn hX hE dX0_leastRelease_29 (by rw [leastV, if_neg (fun q => q.elim h16 (fun q => absurd h21 (Int32.not_le.mpr q)))]) (by omega) (by omega)
    · refine mw_ic hX 0 dX0_leastRelease_24 rfl ?_
      refine mw_goto hX (tgt := 29) dX0_leastRelease_25 (by decide) ?_
      exact mw_ireturn hX hE dX0_leastRelease_29 (by rw [leastV, if_pos (Or.inr (Int32.not_le.mp h21))]) (by omega) (by omega)
set_option maxRecDepth 20000 in
theorem c_levelBehind (l : Launch) (y : mw_Y) (b : Nat) (hP : mw_isP y b) (v r : Int32) (I : mw_I) (L : mw_L) : mw_CT l yX0_levelBehind (.code yX0_levelBehind cX0_levelBehind 3 (some .int)) 2 0 0 [.ref b, .int v, .int r] (y, I, L) (.inl (some (.int (behindV I b v r)), y, I, L)) := by
  refine mw_enter RX0 rfl (by decide +kernel) (mw_cat rfl) (Nat.le_of_ble_eq_true rfl) (fun X hX hl hE hT hnm => ?_)
  subst hl
  show mw_G X 0 [some (.ref b), some (.int v), some (.int r)] [] y I L 0 0
  refine mw_iload_n hX dX0_levelBehind_0 rfl rfl ?_
  refine mw_iload_n hX dX0_levelBehind_1 rfl rfl ?_
  refine mw_isub hX dX0_levelBehind_2 ?_
  refine mw_aload_n hX dX0_levelBehind_3 rfl rfl ?_
  refine mw_getI hX dX0_levelBehind_4 hP.l0 hP.s0 fl_X0_9 (by decide) (by decide) rfl ?_
  refine mw_cS hX [_, _] ws_X0_75 dX0_levelBehind_7 (c_min (mw_l X) (v - r) (I b 0) y I L) rfl (by decide) (by omega) (by omega) (Nat.le_of_ble_eq_true rfl) ?_
  exact mw_ireturn hX hE dX0_levelBehind_10 (rfl) (by omega) (by omega)
