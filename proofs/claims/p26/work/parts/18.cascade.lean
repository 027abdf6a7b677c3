/-! WaterCascade: the methods but hours and best releases (by program: wip/whole/gen18.py) -/
theorem okR_low {i : Nat} (h0 : 1 ≤ i) (h : i < 3) : okR (nI i) 1 2 := ⟨nI_nlt (a := i) (b := 1) h0 (by omega), nI_le (a := i) (b := 2) (by omega) (by decide)⟩
set_option maxRecDepth 20000 in
theorem c_setPondX (l : Launch) (p a b c : Int32) (h : ¬ (okR p 0 2 ∧ okR a 1 200 ∧ okR b 0 100 ∧ okR c 0 5)) (I : mw_I) (L : mw_L) : mw_CT l yX1_setPond (.code yX1_setPond cX1_setPond 6 none) 4 4 24 [.ref 0, .int p, .int a, .int b, .int c] (mw_Y0, I, L) (.inr "java/lang/IllegalArgumentException") := by
  refine mw_enter RX1 rfl (by decide +kernel) (mw_cat rfl) (Nat.le_of_ble_eq_true rfl) (fun X hX hl hE hT hnm => ?_)
  subst hl
  show mw_G X 0 [some (.ref 0), some (.int p), some (.int a), some (.int b), some (.int c), none] [] mw_Y0 I L 0 0
  refine mw_iload_n hX dX1_setPond_0 rfl rfl ?_
  rcases Classical.em (okR p 0 2) with h1 | h1
  · refine mw_cS hX [_] ws_X1_32 dX1_setPond_1 (c_checkPlant (mw_l X) p h1 mw_Y0 I L) rfl (by decide) (by omega) (by omega) (Nat.le_of_ble_eq_true rfl) ?_
    refine mw_iload_n hX dX1_setPond_4 rfl rfl ?_
    refine mw_ic hX 1 dX1_setPond_5 rfl ?_
    refine mw_sp hX 200 dX1_setPond_6 rfl ?_
    rcases Classical.em (okR a 1 200) with h9 | h9
    · refine mw_cS hX [_, _, _] ws_X1_36 dX1_setPond_9 (c_checkRange (mw_l X) a 1 200 h9 mw_Y0 I L) rfl (by decide) (by omega) (by omega) (Nat.le_of_ble_eq_true rfl) ?_
      refine mw_iload_n hX dX1_setPond_12 rfl rfl ?_
      refine mw_ic hX 0 dX1_setPond_13 rfl ?_
      refine mw_bp hX 100 dX1_setPond_14 rfl ?_
      rcases Classical.em (okR b 0 100) with h16 | h16
      · refine mw_cS hX [_, _, _] ws_X1_36 dX1_setPond_16 (c_checkRange (mw_l X) b 0 100 h16 mw_Y0 I L) rfl (by decide) (by omega) (by omega) (Nat.le_of_ble_eq_true rfl) ?_
        refine mw_iload hX dX1_setPond_19 rfl ?_
        refine mw_ic hX 0 dX1_setPond_21 rfl ?_
        refine mw_ic hX 5 dX1_setPond_22 rfl ?_
        rcases Classical.em (okR c 0 5) with h23 | h23
        · refine mw_cS hX [_, _, _] ws_X1_36 dX1_setPond_23 (c_checkRange (mw_l X) c 0 5 h23 mw_Y0 I L) rfl (by decide) (by omega) (by omega) (Nat.le_of_ble_eq_true rfl) ?_
          exact absurd ⟨h1, h9, h16, h23⟩ h
        · exact mw_cSX hX hE hT [_, _, _] ws_X1_36 dX1_setPond_23 (c_checkRangeX (mw_l X) c 0 5 h23 mw_Y0 I L) rfl (by decide) (by omega) (by omega) (Nat.le_of_ble_eq_true rfl) (rfl) (by omega) (by omega)
      · exact mw_cSX hX hE hT [_, _, _] ws_X1_36 dX1_setPond_16 (c_checkRangeX (mw_l X) b 0 100 h16 mw_Y0 I L) rfl (by decide) (by omega) (by omega) (Nat.le_of_ble_eq_true rfl) (rfl) (by omega) (by omega)
    · exact mw_cSX hX hE hT [_, _, _] ws_X1_36 dX1_setPond_9 (c_checkRangeX (mw_l X) a 1 200 h9 mw_Y0 I L) rfl (by decide) (by omega) (by omega) (Nat.le_of_ble_eq_true rfl) (rfl) (by omega) (by omega)
  · exact mw_cSX hX hE hT [_] ws_X1_32 dX1_setPond_1 (c_checkPlantX (mw_l X) p h1 mw_Y0 I L) rfl (by decide) (by omega) (by omega) (Nat.le_of_ble_eq_true rfl) (rfl) (by omega) (by omega)
set_option maxRecDepth 20000 in
theorem c_setPond (l : Launch) (i : Nat) (hi : i < 3) (a b c : Int32) (ha : okR a 1 200) (hb : okR b 0 100) (hc : okR c 0 5) (I : mw_I) (L : mw_L) : mw_CT l yX1_setPond (.code yX1_setPond cX1_setPond 6 none) 4 4 24 [.ref 0, .int (nI i), .int a, .int b, .int c] (mw_Y0, I, L) (.inl (none, mw_Y0, mw_up (mw_up (mw_up I (7 + 11 * i) 0 a) (7 + 11 * i) 1 b) (7 + 11 * i) 2 c, L)) := by
  refine mw_enter RX1 rfl (by decide +kernel) (mw_cat rfl) (Nat.le_of_ble_eq_true rfl) (fun X hX hl hE hT hnm => ?_)
  subst hl
  show mw_G X 0 [some (.ref 0), some (.int (nI i)), some (.int a), some (.int b), some (.int c), none] [] mw_Y0 I L 0 0
  refine mw_iload_n hX dX1_setPond_0 rfl rfl ?_
  refine mw_cS hX [_] ws_X1_32 dX1_setPond_1 (c_checkPlant (mw_l X) (nI i) (okR_nI (n := 2) (by decide) hi) mw_Y0 I L) rfl (by decide) (by omega) (by omega) (Nat.le_of_ble_eq_true rfl) ?_
  refine mw_iload_n hX dX1_setPond_4 rfl rfl ?_
  refine mw_ic hX 1 dX1_setPond_5 rfl ?_
  refine mw_sp hX 200 dX1_setPond_6 rfl ?_
  refine mw_cS hX [_, _, _] ws_X1_36 dX1_setPond_9 (c_checkRange (mw_l X) a 1 200 ha mw_Y0 I L) rfl (by decide) (by omega) (by omega) (Nat.le_of_ble_eq_true rfl) ?_
  refine mw_iload_n hX dX1_setPond_12 rfl rfl ?_
  refine mw_ic hX 0 dX1_setPond_13 rfl ?_
  refine mw_bp hX 100 dX1_setPond_14 rfl ?_
  refine mw_cS hX [_, _, _] ws_X1_36 dX1_setPond_16 (c_checkRange (mw_l X) b 0 100 hb mw_Y0 I L) rfl (by decide) (by omega) (by omega) (Nat.le_of_ble_eq_true rfl) ?_
  refine mw_iload hX dX1_setPond_19 rfl ?_
  refine mw_ic hX 0 dX1_setPond_21 rfl ?_
  refine mw_ic hX 5 dX1_setPond_22 rfl ?_
  refine mw_cS hX [_, _, _] ws_X1_36 dX1_setPond_23 (c_checkRange (mw_l X) c 0 5 hc mw_Y0 I L) rfl (by decide) (by omega) (by omega) (Nat.le_of_ble_eq_true rfl) ?_
  refine mw_aload_n hX dX1_setPond_26 rfl rfl ?_
  refine mw_getR hX (r := 1) dX1_setPond_27 (mw_Yl (by decide)) mw_YW fl_X1_11 (by decide) (by decide) rfl rfl ?_
  refine mw_iload_n hX dX1_setPond_30 rfl rfl ?_
  refine mw_aaloadP hX (j := i) dX1_setPond_31 (mw_Yl (by decide)) rfl rfl (by omega) (by decide) (mw_Yp (by omega)) ?_
  refine mw_astore hX dX1_setPond_32 (Nat.le_of_ble_eq_true rfl) ?_
  dsimp only [List.set]
  refine mw_aload hX dX1_setPond_34 rfl ?_
  refine mw_iload_n hX dX1_setPond_36 rfl rfl ?_
  refine mw_putI hX dX1_setPond_37 (mw_P0 (i := i) (by omega)).l0 (mw_P0 (i := i) (by omega)).s0 fl_X1_40 (by decide) (by decide) rfl ?_
  refine mw_aload hX dX1_setPond_40 rfl ?_
  refine mw_iload_n hX dX1_setPond_42 rfl rfl ?_
  refine mw_putI hX dX1_setPond_43 (mw_P0 (i := i) (by omega)).l0 (mw_P0 (i := i) (by omega)).s0 fl_X1_44 (by decide) (by decide) rfl ?_
  refine mw_aload hX dX1_setPond_46 rfl ?_
  refine mw_iload hX dX1_setPond_48 rfl ?_
  refine mw_putI hX dX1_setPond_50 (mw_P0 (i := i) (by omega)).l0 (mw_P0 (i := i) (by omega)).s0 fl_X1_47 (by decide) (by decide) rfl ?_
  exact mw_return hX hE dX1_setPond_53 (rfl) (by omega) (by omega)
set_option maxRecDepth 20000 in
theorem c_setInflowX (l : Launch) (p a b : Int32) (h : ¬ (okR p 0 2 ∧ okR a 0 50 ∧ okR b 0 100)) (I : mw_I) (L : mw_L) : mw_CT l yX1_setInflow (.code yX1_setInflow cX1_setInflow 5 (some .int)) 4 3 18 [.ref 0, .int p, .int a, .int b] (mw_Y0, I, L) (.inr "java/lang/IllegalArgumentException") := by
  refine mw_enter RX1 rfl (by decide +kernel) (mw_cat rfl) (Nat.le_of_ble_eq_true rfl) (fun X hX hl hE hT hnm => ?_)
  subst hl
  show mw_G X 0 [some (.ref 0), some (.int p), some (.int a), some (.int b), none] [] mw_Y0 I L 0 0
  refine mw_iload_n hX dX1_setInflow_0 rfl rfl ?_
  rcases Classical.em (okR p 0 2) with h1 | h1
  · refine mw_cS hX [_] ws_X1_32 dX1_setInflow_1 (c_checkPlant (mw_l X) p h1 mw_Y0 I L) rfl (by decide) (by omega) (by omega) (Nat.le_of_ble_eq_true rfl) ?_
    refine mw_iload_n hX dX1_setInflow_4 rfl rfl ?_
    refine mw_ic hX 0 dX1_setInflow_5 rfl ?_
    refine mw_bp hX 50 dX1_setInflow_6 rfl ?_
    rcases Classical.em (okR a 0 50) with h8 | h8
    · refine mw_cS hX [_, _, _] ws_X1_36 dX1_setInflow_8 (c_checkRange (mw_l X) a 0 50 h8 mw_Y0 I L) rfl (by decide) (by omega) (by omega) (Nat.le_of_ble_eq_true rfl) ?_
      refine mw_iload_n hX dX1_setInflow_11 rfl rfl ?_
      refine mw_ic hX 0 dX1_setInflow_12 rfl ?_
      refine mw_bp hX 100 dX1_setInflow_13 rfl ?_
      rcases Classical.em (okR b 0 100) with h15 | h15
      · refine mw_cS hX [_, _, _] ws_X1_36 dX1_setInflow_15 (c_checkRange (mw_l X) b 0 100 h15 mw_Y0 I L) rfl (by decide) (by omega) (by omega) (Nat.le_of_ble_eq_true rfl) ?_
        exact absurd ⟨h1, h8, h15⟩ h
      · exact mw_cSX hX hE hT [_, _, _] ws_X1_36 dX1_setInflow_15 (c_checkRangeX (mw_l X) b 0 100 h15 mw_Y0 I L) rfl (by decide) (by omega) (by omega) (Nat.le_of_ble_eq_true rfl) (rfl) (by omega) (by omega)
    · exact mw_cSX hX hE hT [_, _, _] ws_X1_36 dX1_setInflow_8 (c_checkRangeX (mw_l X) a 0 50 h8 mw_Y0 I L) rfl (by decide) (by omega) (by omega) (Nat.le_of_ble_eq_true rfl) (rfl) (by omega) (by omega)
  · exact mw_cSX hX hE hT [_] ws_X1_32 dX1_setInflow_1 (c_checkPlantX (mw_l X) p h1 mw_Y0 I L) rfl (by decide) (by omega) (by omega) (Nat.le_of_ble_eq_true rfl) (rfl) (by omega) (by omega)
set_option maxRecDepth 20000 in
theorem c_setInflow (l : Launch) (i : Nat) (hi : i < 3) (a b : Int32) (ha : okR a 0 50) (hb : okR b 0 100) (I : mw_I) (L : mw_L) : mw_CT l yX1_setInflow (.code yX1_setInflow cX1_setInflow 5 (some .int)) 4 3 18 [.ref 0, .int (nI i), .int a, .int b] (mw_Y0, I, L) (.inl (some (.int (I (7 + 11 * i) 4)), mw_Y0, mw_up (mw_up I (7 + 11 * i) 4 a) (7 + 11 * i) 5 b, L)) := by
  refine mw_enter RX1 rfl (by decide +kernel) (mw_cat rfl) (Nat.le_of_ble_eq_true rfl) (fun X hX hl hE hT hnm => ?_)
  subst hl
  show mw_G X 0 [some (.ref 0), some (.int (nI i)), some (.int a), some (.int b), none] [] mw_Y0 I L 0 0
  refine mw_iload_n hX dX1_setInflow_0 rfl rfl ?_
  refine mw_cS hX [_] ws_X1_32 dX1_setInflow_1 (c_checkPlant (mw_l X) (nI i) (okR_nI (n := 2) (by decide) hi) mw_Y0 I L) rfl (by decide) (by omega) (by omega) (Nat.le_of_ble_eq_true rfl) ?_
  refine mw_iload_n hX dX1_setInflow_4 rfl rfl ?_
  refine mw_ic hX 0 dX1_setInflow_5 rfl ?_
  refine mw_bp hX 50 dX1_setInflow_6 rfl ?_
  refine mw_cS hX [_, _, _] ws_X1_36 dX1_setInflow_8 (c_checkRange (mw_l X) a 0 50 ha mw_Y0 I L) rfl (by decide) (by omega) (by omega) (Nat.le_of_ble_eq_true rfl) ?_
  refine mw_iload_n hX dX1_setInflow_11 rfl rfl ?_
  refine mw_ic hX 0 dX1_setInflow_12 rfl ?_
  refine mw_bp hX 100 dX1_setInflow_13 rfl ?_
  refine mw_cS hX [_, _, _] ws_X1_36 dX1_setInflow_15 (c_checkRange (mw_l X) b 0 100 hb mw_Y0 I L) rfl (by decide) (by omega) (by omega) (Nat.le_of_ble_eq_true rfl) ?_
  refine mw_aload_n hX dX1_setInflow_18 rfl rfl ?_
  refine mw_getR hX (r := 1) dX1_setInflow_19 (mw_Yl (by decide)) mw_YW fl_X1_11 (by decide) (by decide) rfl rfl ?_
  refine mw_iload_n hX dX1_setInflow_22 rfl rfl ?_
  refine mw_aaloadP hX (j := i) dX1_setInflow_23 (mw_Yl (by decide)) rfl rfl (by omega) (by decide) (mw_Yp (by omega)) ?_
  refine mw_getI hX dX1_setInflow_24 (mw_P0 (i := i) (by omega)).l0 (mw_P0 (i := i) (by omega)).s0 fl_X1_50 (by decide) (by decide) rfl ?_
  refine mw_istore hX dX1_setInflow_27 (Nat.le_of_ble_eq_true rfl) ?_
  dsimp only [List.set]
  refine mw_aload_n hX dX1_setInflow_29 rfl rfl ?_
  refine mw_getR hX (r := 1) dX1_setInflow_30 (mw_Yl (by decide)) mw_YW fl_X1_11 (by decide) (by decide) rfl rfl ?_
  refine mw_iload_n hX dX1_setInflow_33 rfl rfl ?_
  refine mw_aaloadP hX (j := i) dX1_setInflow_34 (mw_Yl (by decide)) rfl rfl (by omega) (by decide) (mw_Yp (by omega)) ?_
  refine mw_iload_n hX dX1_setInflow_35 rfl rfl ?_
  refine mw_putI hX dX1_setInflow_36 (mw_P0 (i := i) (by omega)).l0 (mw_P0 (i := i) (by omega)).s0 fl_X1_50 (by decide) (by decide) rfl ?_
  refine mw_aload_n hX dX1_setInflow_39 rfl rfl ?_
  refine mw_getR hX (r := 1) dX1_setInflow_40 (mw_Yl (by decide)) mw_YW fl_X1_11 (by decide) (by decide) rfl rfl ?_
  refine mw_iload_n hX dX1_setInflow_43 rfl rfl ?_
  refine mw_aaloadP hX (j := i) dX1_setInflow_44 (mw_Yl (by decide)) rfl rfl (by omega) (by decide) (mw_Yp (by omega)) ?_
  refine mw_iload_n hX dX1_setInflow_45 rfl rfl ?_
  refine mw_putI hX dX1_setInflow_46 (mw_P0 (i := i) (by omega)).l0 (mw_P0 (i := i) (by omega)).s0 fl_X1_53 (by decide) (by decide) rfl ?_
  refine mw_iload hX dX1_setInflow_49 rfl ?_
  exact mw_ireturn hX hE dX1_setInflow_51 (rfl) (by omega) (by omega)
set_option maxRecDepth 20000 in
theorem c_setMinimumX (l : Launch) (p a : Int32) (h : ¬ (okR p 0 2 ∧ okR a 0 20)) (I : mw_I) (L : mw_L) : mw_CT l yX1_setMinimum (.code yX1_setMinimum cX1_setMinimum 4 (some .int)) 4 2 12 [.ref 0, .int p, .int a] (mw_Y0, I, L) (.inr "java/lang/IllegalArgumentException") := by
  refine mw_enter RX1 rfl (by decide +kernel) (mw_cat rfl) (Nat.le_of_ble_eq_true rfl) (fun X hX hl hE hT hnm => ?_)
  subst hl
  show mw_G X 0 [some (.ref 0), some (.int p), some (.int a), none] [] mw_Y0 I L 0 0
  refine mw_iload_n hX dX1_setMinimum_0 rfl rfl ?_
  rcases Classical.em (okR p 0 2) with h1 | h1
  · refine mw_cS hX [_] ws_X1_32 dX1_setMinimum_1 (c_checkPlant (mw_l X) p h1 mw_Y0 I L) rfl (by decide) (by omega) (by omega) (Nat.le_of_ble_eq_true rfl) ?_
    refine mw_iload_n hX dX1_setMinimum_4 rfl rfl ?_
    refine mw_ic hX 0 dX1_setMinimum_5 rfl ?_
    refine mw_bp hX 20 dX1_setMinimum_6 rfl ?_
    rcases Classical.em (okR a 0 20) with h8 | h8
    · refine mw_cS hX [_, _, _] ws_X1_36 dX1_setMinimum_8 (c_checkRange (mw_l X) a 0 20 h8 mw_Y0 I L) rfl (by decide) (by omega) (by omega) (Nat.le_of_ble_eq_true rfl) ?_
      exact absurd ⟨h1, h8⟩ h
    · exact mw_cSX hX hE hT [_, _, _] ws_X1_36 dX1_setMinimum_8 (c_checkRangeX (mw_l X) a 0 20 h8 mw_Y0 I L) rfl (by decide) (by omega) (by omega) (Nat.le_of_ble_eq_true rfl) (rfl) (by omega) (by omega)
  · exact mw_cSX hX hE hT [_] ws_X1_32 dX1_setMinimum_1 (c_checkPlantX (mw_l X) p h1 mw_Y0 I L) rfl (by decide) (by omega) (by omega) (Nat.le_of_ble_eq_true rfl) (rfl) (by omega) (by omega)
set_option maxRecDepth 20000 in
theorem c_setMinimum (l : Launch) (i : Nat) (hi : i < 3) (a : Int32) (ha : okR a 0 20) (I : mw_I) (L : mw_L) : mw_CT l yX1_setMinimum (.code yX1_setMinimum cX1_setMinimum 4 (some .int)) 4 2 12 [.ref 0, .int (nI i), .int a] (mw_Y0, I, L) (.inl (some (.int (I (7 + 11 * i) 3)), mw_Y0, mw_up I (7 + 11 * i) 3 a, L)) := by
  refine mw_enter RX1 rfl (by decide +kernel) (mw_cat rfl) (Nat.le_of_ble_eq_true rfl) (fun X hX hl hE hT hnm => ?_)
  subst hl
  show mw_G X 0 [some (.ref 0), some (.int (nI i)), some (.int a), none] [] mw_Y0 I L 0 0
  refine mw_iload_n hX dX1_setMinimum_0 rfl rfl ?_
  refine mw_cS hX [_] ws_X1_32 dX1_setMinimum_1 (c_checkPlant (mw_l X) (nI i) (okR_nI (n := 2) (by decide) hi) mw_Y0 I L) rfl (by decide) (by omega) (by omega) (Nat.le_of_ble_eq_true rfl) ?_
  refine mw_iload_n hX dX1_setMinimum_4 rfl rfl ?_
  refine mw_ic hX 0 dX1_setMinimum_5 rfl ?_
  refine mw_bp hX 20 dX1_setMinimum_6 rfl ?_
  refine mw_cS hX [_, _, _] ws_X1_36 dX1_setMinimum_8 (c_checkRange (mw_l X) a 0 20 ha mw_Y0 I L) rfl (by decide) (by omega) (by omega) (Nat.le_of_ble_eq_true rfl) ?_
  refine mw_aload_n hX dX1_setMinimum_11 rfl rfl ?_
  refine mw_getR hX (r := 1) dX1_setMinimum_12 (mw_Yl (by decide)) mw_YW fl_X1_11 (by decide) (by decide) rfl rfl ?_
  refine mw_iload_n hX dX1_setMinimum_15 rfl rfl ?_
  refine mw_aaloadP hX (j := i) dX1_setMinimum_16 (mw_Yl (by decide)) rfl rfl (by omega) (by decide) (mw_Yp (by omega)) ?_
  refine mw_getI hX dX1_setMinimum_17 (mw_P0 (i := i) (by omega)).l0 (mw_P0 (i := i) (by omega)).s0 fl_X1_56 (by decide) (by decide) rfl ?_
  refine mw_istore_n hX dX1_setMinimum_20 rfl (Nat.le_of_ble_eq_true rfl) ?_
  dsimp only [List.set]
  refine mw_aload_n hX dX1_setMinimum_21 rfl rfl ?_
  refine mw_getR hX (r := 1) dX1_setMinimum_22 (mw_Yl (by decide)) mw_YW fl_X1_11 (by decide) (by decide) rfl rfl ?_
  refine mw_iload_n hX dX1_setMinimum_25 rfl rfl ?_
  refine mw_aaloadP hX (j := i) dX1_setMinimum_26 (mw_Yl (by decide)) rfl rfl (by omega) (by decide) (mw_Yp (by omega)) ?_
  refine mw_iload_n hX dX1_setMinimum_27 rfl rfl ?_
  refine mw_putI hX dX1_setMinimum_28 (mw_P0 (i := i) (by omega)).l0 (mw_P0 (i := i) (by omega)).s0 fl_X1_56 (by decide) (by decide) rfl ?_
  refine mw_iload_n hX dX1_setMinimum_31 rfl rfl ?_
  exact mw_ireturn hX hE dX1_setMinimum_32 (rfl) (by omega) (by omega)
set_option maxRecDepth 20000 in
theorem c_orderX (l : Launch) (p o a : Int32) (h : ¬ (okR p 0 2 ∧ okR o 0 1 ∧ okR a 0 30)) (I : mw_I) (L : mw_L) : mw_CT l yX1_order (.code yX1_order cX1_order 5 (some .int)) 4 3 18 [.ref 0, .int p, .int o, .int a] (mw_Y0, I, L) (.inr "java/lang/IllegalArgumentException") := by
  refine mw_enter RX1 rfl (by decide +kernel) (mw_cat rfl) (Nat.le_of_ble_eq_true rfl) (fun X hX hl hE hT hnm => ?_)
  subst hl
  show mw_G X 0 [some (.ref 0), some (.int p), some (.int o), some (.int a), none] [] mw_Y0 I L 0 0
  refine mw_iload_n hX dX1_order_0 rfl rfl ?_
  rcases Classical.em (okR p 0 2) with h1 | h1
  · refine mw_cS hX [_] ws_X1_32 dX1_order_1 (c_checkPlant (mw_l X) p h1 mw_Y0 I L) rfl (by decide) (by omega) (by omega) (Nat.le_of_ble_eq_true rfl) ?_
    refine mw_iload_n hX dX1_order_4 rfl rfl ?_
    rcases Classical.em (okR o 0 1) with h5 | h5
    · refine mw_cS hX [_] ws_X1_59 dX1_order_5 (c_checkOwner (mw_l X) o h5 mw_Y0 I L) rfl (by decide) (by omega) (by omega) (Nat.le_of_ble_eq_true rfl) ?_
      refine mw_iload_n hX dX1_order_8 rfl rfl ?_
      refine mw_ic hX 0 dX1_order_9 rfl ?_
      refine mw_bp hX 30 dX1_order_10 rfl ?_
      rcases Classical.em (okR a 0 30) with h12 | h12
      · refine mw_cS hX [_, _, _] ws_X1_36 dX1_order_12 (c_checkRange (mw_l X) a 0 30 h12 mw_Y0 I L) rfl (by decide) (by omega) (by omega) (Nat.le_of_ble_eq_true rfl) ?_
        exact absurd ⟨h1, h5, h12⟩ h
      · exact mw_cSX hX hE hT [_, _, _] ws_X1_36 dX1_order_12 (c_checkRangeX (mw_l X) a 0 30 h12 mw_Y0 I L) rfl (by decide) (by omega) (by omega) (Nat.le_of_ble_eq_true rfl) (rfl) (by omega) (by omega)
    · exact mw_cSX hX hE hT [_] ws_X1_59 dX1_order_5 (c_checkOwnerX (mw_l X) o h5 mw_Y0 I L) rfl (by decide) (by omega) (by omega) (Nat.le_of_ble_eq_true rfl) (rfl) (by omega) (by omega)
  · exact mw_cSX hX hE hT [_] ws_X1_32 dX1_order_1 (c_checkPlantX (mw_l X) p h1 mw_Y0 I L) rfl (by decide) (by omega) (by omega) (Nat.le_of_ble_eq_true rfl) (rfl) (by omega) (by omega)
set_option maxRecDepth 20000 in
theorem c_order (l : Launch) (i : Nat) (hi : i < 3) (o : Nat) (ho : o < 2) (a : Int32) (ha : okR a 0 30) (I : mw_I) (L : mw_L) : mw_CT l yX1_order (.code yX1_order cX1_order 5 (some .int)) 4 3 18 [.ref 0, .int (nI i), .int (nI o), .int a] (mw_Y0, I, L) (.inl (some (.int (I ((7 + 11 * i) + 1) o)), mw_Y0, mw_up I ((7 + 11 * i) + 1) o a, L)) := by
  refine mw_enter RX1 rfl (by decide +kernel) (mw_cat rfl) (Nat.le_of_ble_eq_true rfl) (fun X hX hl hE hT hnm => ?_)
  subst hl
  show mw_G X 0 [some (.ref 0), some (.int (nI i)), some (.int (nI o)), some (.int a), none] [] mw_Y0 I L 0 0
  refine mw_iload_n hX dX1_order_0 rfl rfl ?_
  refine mw_cS hX [_] ws_X1_32 dX1_order_1 (c_checkPlant (mw_l X) (nI i) (okR_nI (n := 2) (by decide) hi) mw_Y0 I L) rfl (by decide) (by omega) (by omega) (Nat.le_of_ble_eq_true rfl) ?_
  refine mw_iload_n hX dX1_order_4 rfl rfl ?_
  refine mw_cS hX [_] ws_X1_59 dX1_order_5 (c_checkOwner (mw_l X) (nI o) (okR_nI (n := 1) (by decide) ho) mw_Y0 I L) rfl (by decide) (by omega) (by omega) (Nat.le_of_ble_eq_true rfl) ?_
  refine mw_iload_n hX dX1_order_8 rfl rfl ?_
  refine mw_ic hX 0 dX1_order_9 rfl ?_
  refine mw_bp hX 30 dX1_order_10 rfl ?_
  refine mw_cS hX [_, _, _] ws_X1_36 dX1_order_12 (c_checkRange (mw_l X) a 0 30 ha mw_Y0 I L) rfl (by decide) (by omega) (by omega) (Nat.le_of_ble_eq_true rfl) ?_
  refine mw_aload_n hX dX1_order_15 rfl rfl ?_
  refine mw_getR hX (r := 1) dX1_order_16 (mw_Yl (by decide)) mw_YW fl_X1_11 (by decide) (by decide) rfl rfl ?_
  refine mw_iload_n hX dX1_order_19 rfl rfl ?_
  refine mw_aaloadP hX (j := i) dX1_order_20 (mw_Yl (by decide)) rfl rfl (by omega) (by decide) (mw_Yp (by omega)) ?_
  refine mw_getR hX dX1_order_21 (mw_P0 (i := i) (by omega)).l0 (mw_P0 (i := i) (by omega)).s0 fl_X1_62 (by decide) (by decide) rfl (mw_P0 (i := i) (by omega)).r6 ?_
  refine mw_iload_n hX dX1_order_24 rfl rfl ?_
  refine mw_iaload hX (j := o) dX1_order_25 (mw_P0 (i := i) (by omega)).l1 (mw_P0 (i := i) (by omega)).s1 rfl (by omega) (by decide) ?_
  refine mw_istore hX dX1_order_26 (Nat.le_of_ble_eq_true rfl) ?_
  dsimp only [List.set]
  refine mw_aload_n hX dX1_order_28 rfl rfl ?_
  refine mw_getR hX (r := 1) dX1_order_29 (mw_Yl (by decide)) mw_YW fl_X1_11 (by decide) (by decide) rfl rfl ?_
  refine mw_iload_n hX dX1_order_32 rfl rfl ?_
  refine mw_aaloadP hX (j := i) dX1_order_33 (mw_Yl (by decide)) rfl rfl (by omega) (by decide) (mw_Yp (by omega)) ?_
  refine mw_getR hX dX1_order_34 (mw_P0 (i := i) (by omega)).l0 (mw_P0 (i := i) (by omega)).s0 fl_X1_62 (by decide) (by decide) rfl (mw_P0 (i := i) (by omega)).r6 ?_
  refine mw_iload_n hX dX1_order_37 rfl rfl ?_
  refine mw_iload_n hX dX1_order_38 rfl rfl ?_
  refine mw_iastore hX (j := o) dX1_order_39 (mw_P0 (i := i) (by omega)).l1 (mw_P0 (i := i) (by omega)).s1 rfl (by omega) (by decide) ?_
  refine mw_iload hX dX1_order_40 rfl ?_
  exact mw_ireturn hX hE dX1_order_42 (rfl) (by omega) (by omega)
set_option maxRecDepth 20000 in
theorem c_setYieldX (l : Launch) (p t f a : Int32) (h : ¬ (okR p 0 2 ∧ okR t 0 1 ∧ okR f 1 8 ∧ okR a 0 200)) (I : mw_I) (L : mw_L) : mw_CT l yX1_setYield (.code yX1_setYield cX1_setYield 6 (some .int)) 4 4 24 [.ref 0, .int p, .int t, .int f, .int a] (mw_Y0, I, L) (.inr "java/lang/IllegalArgumentException") := by
  refine mw_enter RX1 rfl (by decide +kernel) (mw_cat rfl) (Nat.le_of_ble_eq_true rfl) (fun X hX hl hE hT hnm => ?_)
  subst hl
  show mw_G X 0 [some (.ref 0), some (.int p), some (.int t), some (.int f), some (.int a), none] [] mw_Y0 I L 0 0
  refine mw_iload_n hX dX1_setYield_0 rfl rfl ?_
  rcases Classical.em (okR p 0 2) with h1 | h1
  · refine mw_cS hX [_] ws_X1_32 dX1_setYield_1 (c_checkPlant (mw_l X) p h1 mw_Y0 I L) rfl (by decide) (by omega) (by omega) (Nat.le_of_ble_eq_true rfl) ?_
    refine mw_iload_n hX dX1_setYield_4 rfl rfl ?_
    refine mw_ic hX 0 dX1_setYield_5 rfl ?_
    refine mw_ic hX 1 dX1_setYield_6 rfl ?_
    rcases Classical.em (okR t 0 1) with h7 | h7
    · refine mw_cS hX [_, _, _] ws_X1_36 dX1_setYield_7 (c_checkRange (mw_l X) t 0 1 h7 mw_Y0 I L) rfl (by decide) (by omega) (by omega) (Nat.le_of_ble_eq_true rfl) ?_
      refine mw_iload_n hX dX1_setYield_10 rfl rfl ?_
      refine mw_ic hX 1 dX1_setYield_11 rfl ?_
      refine mw_bp hX 8 dX1_setYield_12 rfl ?_
      rcases Classical.em (okR f 1 8) with h14 | h14
      · refine mw_cS hX [_, _, _] ws_X1_36 dX1_setYield_14 (c_checkRange (mw_l X) f 1 8 h14 mw_Y0 I L) rfl (by decide) (by omega) (by omega) (Nat.le_of_ble_eq_true rfl) ?_
        refine mw_iload hX dX1_setYield_17 rfl ?_
        refine mw_ic hX 0 dX1_setYield_19 rfl ?_
        refine mw_sp hX 200 dX1_setYield_20 rfl ?_
        rcases Classical.em (okR a 0 200) with h23 | h23
        · refine mw_cS hX [_, _, _] ws_X1_36 dX1_setYield_23 (c_checkRange (mw_l X) a 0 200 h23 mw_Y0 I L) rfl (by decide) (by omega) (by omega) (Nat.le_of_ble_eq_true rfl) ?_
          exact absurd ⟨h1, h7, h14, h23⟩ h
        · exact mw_cSX hX hE hT [_, _, _] ws_X1_36 dX1_setYield_23 (c_checkRangeX (mw_l X) a 0 200 h23 mw_Y0 I L) rfl (by decide) (by omega) (by omega) (Nat.le_of_ble_eq_true rfl) (rfl) (by omega) (by omega)
      · exact mw_cSX hX hE hT [_, _, _] ws_X1_36 dX1_setYield_14 (c_checkRangeX (mw_l X) f 1 8 h14 mw_Y0 I L) rfl (by decide) (by omega) (by omega) (Nat.le_of_ble_eq_true rfl) (rfl) (by omega) (by omega)
    · exact mw_cSX hX hE hT [_, _, _] ws_X1_36 dX1_setYield_7 (c_checkRangeX (mw_l X) t 0 1 h7 mw_Y0 I L) rfl (by decide) (by omega) (by omega) (Nat.le_of_ble_eq_true rfl) (rfl) (by omega) (by omega)
  · exact mw_cSX hX hE hT [_] ws_X1_32 dX1_setYield_1 (c_checkPlantX (mw_l X) p h1 mw_Y0 I L) rfl (by decide) (by omega) (by omega) (Nat.le_of_ble_eq_true rfl) (rfl) (by omega) (by omega)
set_option maxRecDepth 20000 in
theorem c_setYield (l : Launch) (i : Nat) (hi : i < 3) (t : Nat) (ht : t < 2) (f : Nat) (hf0 : 1 ≤ f) (hf : f < 9) (a : Int32) (ha : okR a 0 200) (I : mw_I) (L : mw_L) : mw_CT l yX1_setYield (.code yX1_setYield cX1_setYield 6 (some .int)) 4 4 24 [.ref 0, .int (nI i), .int (nI t), .int (nI f), .int a] (mw_Y0, I, L) (.inl (some (.int (I ((7 + 11 * i) + 8 + t) f)), mw_Y0, mixI (mw_up I ((7 + 11 * i) + 8 + t) f a) (7 + 11 * i), L)) := by
  refine mw_enter RX1 rfl (by decide +kernel) (mw_cat rfl) (Nat.le_of_ble_eq_true rfl) (fun X hX hl hE hT hnm => ?_)
  subst hl
  show mw_G X 0 [some (.ref 0), some (.int (nI i)), some (.int (nI t)), some (.int (nI f)), some (.int a), none] [] mw_Y0 I L 0 0
  refine mw_iload_n hX dX1_setYield_0 rfl rfl ?_
  refine mw_cS hX [_] ws_X1_32 dX1_setYield_1 (c_checkPlant (mw_l X) (nI i) (okR_nI (n := 2) (by decide) hi) mw_Y0 I L) rfl (by decide) (by omega) (by omega) (Nat.le_of_ble_eq_true rfl) ?_
  refine mw_iload_n hX dX1_setYield_4 rfl rfl ?_
  refine mw_ic hX 0 dX1_setYield_5 rfl ?_
  refine mw_ic hX 1 dX1_setYield_6 rfl ?_
  refine mw_cS hX [_, _, _] ws_X1_36 dX1_setYield_7 (c_checkRange (mw_l X) (nI t) 0 1 (okR_nI (n := 1) (by decide) ht) mw_Y0 I L) rfl (by decide) (by omega) (by omega) (Nat.le_of_ble_eq_true rfl) ?_
  refine mw_iload_n hX dX1_setYield_10 rfl rfl ?_
  refine mw_ic hX 1 dX1_setYield_11 rfl ?_
  refine mw_bp hX 8 dX1_setYield_12 rfl ?_
  refine mw_cS hX [_, _, _] ws_X1_36 dX1_setYield_14 (c_checkRange (mw_l X) (nI f) 1 8 ⟨nI_nlt (a := f) (b := 1) hf0 (by omega), nI_le (a := f) (b := 8) (by omega) (by decide)⟩ mw_Y0 I L) rfl (by decide) (by omega) (by omega) (Nat.le_of_ble_eq_true rfl) ?_
  refine mw_iload hX dX1_setYield_17 rfl ?_
  refine mw_ic hX 0 dX1_setYield_19 rfl ?_
  refine mw_sp hX 200 dX1_setYield_20 rfl ?_
  refine mw_cS hX [_, _, _] ws_X1_36 dX1_setYield_23 (c_checkRange (mw_l X) a 0 200 ha mw_Y0 I L) rfl (by decide) (by omega) (by omega) (Nat.le_of_ble_eq_true rfl) ?_
  refine mw_aload_n hX dX1_setYield_26 rfl rfl ?_
  refine mw_getR hX (r := 1) dX1_setYield_27 (mw_Yl (by decide)) mw_YW fl_X1_11 (by decide) (by decide) rfl rfl ?_
  refine mw_iload_n hX dX1_setYield_30 rfl rfl ?_
  refine mw_aaloadP hX (j := i) dX1_setYield_31 (mw_Yl (by decide)) rfl rfl (by omega) (by decide) (mw_Yp (by omega)) ?_
  refine mw_getR hX dX1_setYield_32 (mw_P0 (i := i) (by omega)).l0 (mw_P0 (i := i) (by omega)).s0 fl_X1_65 (by decide) (by decide) rfl (mw_P0 (i := i) (by omega)).r10 ?_
  refine mw_iload_n hX dX1_setYield_35 rfl rfl ?_
  refine mw_aaloadR hX (j := t) dX1_setYield_36 (mw_P0 (i := i) (by omega)).l7 (mw_P0 (i := i) (by omega)).s7 rfl (by omega) (by decide) ((mw_P0 (i := i) (by omega)).yy (by omega)) ?_
  refine mw_iload_n hX dX1_setYield_37 rfl rfl ?_
  refine mw_iaload hX (j := f) dX1_setYield_38 ((mw_P0 (i := i) (by omega)).l8 (o := t) (by omega)) ((mw_P0 (i := i) (by omega)).s8 (o := t) (by omega)) rfl (by omega) (by decide) ?_
  refine mw_istore hX dX1_setYield_39 (Nat.le_of_ble_eq_true rfl) ?_
  dsimp only [List.set]
  refine mw_aload_n hX dX1_setYield_41 rfl rfl ?_
  refine mw_getR hX (r := 1) dX1_setYield_42 (mw_Yl (by decide)) mw_YW fl_X1_11 (by decide) (by decide) rfl rfl ?_
  refine mw_iload_n hX dX1_setYield_45 rfl rfl ?_
  refine mw_aaloadP hX (j := i) dX1_setYield_46 (mw_Yl (by decide)) rfl rfl (by omega) (by decide) (mw_Yp (by omega)) ?_
  refine mw_getR hX dX1_setYield_47 (mw_P0 (i := i) (by omega)).l0 (mw_P0 (i := i) (by omega)).s0 fl_X1_65 (by decide) (by decide) rfl (mw_P0 (i := i) (by omega)).r10 ?_
  refine mw_iload_n hX dX1_setYield_50 rfl rfl ?_
  refine mw_aaloadR hX (j := t) dX1_setYield_51 (mw_P0 (i := i) (by omega)).l7 (mw_P0 (i := i) (by omega)).s7 rfl (by omega) (by decide) ((mw_P0 (i := i) (by omega)).yy (by omega)) ?_
  refine mw_iload_n hX dX1_setYield_52 rfl rfl ?_
  refine mw_iload hX dX1_setYield_53 rfl ?_
  refine mw_iastore hX (j := f) dX1_setYield_55 ((mw_P0 (i := i) (by omega)).l8 (o := t) (by omega)) ((mw_P0 (i := i) (by omega)).s8 (o := t) (by omega)) rfl (by omega) (by decide) ?_
  refine mw_aload_n hX dX1_setYield_56 rfl rfl ?_
  refine mw_getR hX (r := 1) dX1_setYield_57 (mw_Yl (by decide)) mw_YW fl_X1_11 (by decide) (by decide) rfl rfl ?_
  refine mw_iload_n hX dX1_setYield_60 rfl rfl ?_
  refine mw_aaloadP hX (j := i) dX1_setYield_61 (mw_Yl (by decide)) rfl rfl (by omega) (by decide) (mw_Yp (by omega)) ?_
  refine mw_cV hX [] ws_X1_69 dX1_setYield_62 (c_findMixes (mw_l X) mw_Y0 _ (mw_P0 hi) _ L) (mw_P0 (i := i) (by omega)).l0 (mw_P0 (i := i) (by omega)).s0 (by decide) rfl (by decide) (by omega) (by omega) (Nat.le_of_ble_eq_true rfl) ?_
  refine mw_iload hX dX1_setYield_65 rfl ?_
  exact mw_ireturn hX hE dX1_setYield_67 (rfl) (by omega) (by omega)
set_option maxRecDepth 20000 in
theorem c_hour (l : Launch) (I : mw_I) (L : mw_L) : mw_CT l yX1_hour (.code yX1_hour cX1_hour 1 (some .int)) 4 0 0 [.ref 0] (mw_Y0, I, L) (.inl (some (.int (I 0 6)), mw_Y0, I, L)) := by
  refine mw_enter RX1 rfl (by decide +kernel) (mw_cat rfl) (Nat.le_of_ble_eq_true rfl) (fun X hX hl hE hT hnm => ?_)
  subst hl
  show mw_G X 0 [some (.ref 0)] [] mw_Y0 I L 0 0
  refine mw_aload_n hX dX1_hour_0 rfl rfl ?_
  refine mw_getI hX dX1_hour_1 (mw_Yl (by decide)) mw_YW fl_X1_72 (by decide) (by decide) rfl ?_
  exact mw_ireturn hX hE dX1_hour_4 (rfl) (by omega) (by omega)
def lendI (I : mw_I) (b o q : Nat) (a : Int32) : mw_I :=
  let I1 := mw_up I (b + 2) o (I (b + 2) o - a)
  let I2 := mw_up I1 (b + 2) q (I1 (b + 2) q + a)
  let I3 := mw_up I2 4 o (I2 4 o - a)
  mw_up I3 4 q (I3 4 q + a)
set_option maxRecDepth 20000 in
theorem c_lendX (l : Launch) (p o a : Int32) (h : ¬ (okR p 0 2 ∧ okR o 0 1 ∧ okR a 1 100)) (I : mw_I) (L : mw_L) : mw_CT l yX1_lend (.code yX1_lend cX1_lend 6 (some .int)) 4 3 18 [.ref 0, .int p, .int o, .int a] (mw_Y0, I, L) (.inr "java/lang/IllegalArgumentException") := by
  refine mw_enter RX1 rfl (by decide +kernel) (mw_cat rfl) (Nat.le_of_ble_eq_true rfl) (fun X hX hl hE hT hnm => ?_)
  subst hl
  show mw_G X 0 [some (.ref 0), some (.int p), some (.int o), some (.int a), none, none] [] mw_Y0 I L 0 0
  refine mw_iload_n hX dX1_lend_0 rfl rfl ?_
  rcases Classical.em (okR p 0 2) with h1 | h1
  · refine mw_cS hX [_] ws_X1_32 dX1_lend_1 (c_checkPlant (mw_l X) p h1 mw_Y0 I L) rfl (by decide) (by omega) (by omega) (Nat.le_of_ble_eq_true rfl) ?_
    refine mw_iload_n hX dX1_lend_4 rfl rfl ?_
    rcases Classical.em (okR o 0 1) with h5 | h5
    · refine mw_cS hX [_] ws_X1_59 dX1_lend_5 (c_checkOwner (mw_l X) o h5 mw_Y0 I L) rfl (by decide) (by omega) (by omega) (Nat.le_of_ble_eq_true rfl) ?_
      refine mw_iload_n hX dX1_lend_8 rfl rfl ?_
      refine mw_ic hX 1 dX1_lend_9 rfl ?_
      refine mw_bp hX 100 dX1_lend_10 rfl ?_
      rcases Classical.em (okR a 1 100) with h12 | h12
      · refine mw_cS hX [_, _, _] ws_X1_36 dX1_lend_12 (c_checkRange (mw_l X) a 1 100 h12 mw_Y0 I L) rfl (by decide) (by omega) (by omega) (Nat.le_of_ble_eq_true rfl) ?_
        exact absurd ⟨h1, h5, h12⟩ h
      · exact mw_cSX hX hE hT [_, _, _] ws_X1_36 dX1_lend_12 (c_checkRangeX (mw_l X) a 1 100 h12 mw_Y0 I L) rfl (by decide) (by omega) (by omega) (Nat.le_of_ble_eq_true rfl) (rfl) (by omega) (by omega)
    · exact mw_cSX hX hE hT [_] ws_X1_59 dX1_lend_5 (c_checkOwnerX (mw_l X) o h5 mw_Y0 I L) rfl (by decide) (by omega) (by omega) (Nat.le_of_ble_eq_true rfl) (rfl) (by omega) (by omega)
  · exact mw_cSX hX hE hT [_] ws_X1_32 dX1_lend_1 (c_checkPlantX (mw_l X) p h1 mw_Y0 I L) rfl (by decide) (by omega) (by omega) (Nat.le_of_ble_eq_true rfl) (rfl) (by omega) (by omega)
set_option maxRecDepth 20000 in
theorem c_lend (l : Launch) (I : mw_I) (i : Nat) (hi : i < 3) (o : Nat) (ho : o < 2) (a : Int32) (ha : okR a 1 100) (hq : a ≤ I ((7 + 11 * i) + 2) o) (L : mw_L) : mw_CT l yX1_lend (.code yX1_lend cX1_lend 6 (some .int)) 4 3 18 [.ref 0, .int (nI i), .int (nI o), .int a] (mw_Y0, I, L) (.inl (some (.int (lendI I (7 + 11 * i) o (1 - o) a ((7 + 11 * i) + 2) o)), mw_Y0, lendI I (7 + 11 * i) o (1 - o) a, L)) := by
  refine mw_enter RX1 rfl (by decide +kernel) (mw_cat rfl) (Nat.le_of_ble_eq_true rfl) (fun X hX hl hE hT hnm => ?_)
  subst hl
  show mw_G X 0 [some (.ref 0), some (.int (nI i)), some (.int (nI o)), some (.int a), none, none] [] mw_Y0 I L 0 0
  refine mw_iload_n hX dX1_lend_0 rfl rfl ?_
  refine mw_cS hX [_] ws_X1_32 dX1_lend_1 (c_checkPlant (mw_l X) (nI i) (okR_nI (n := 2) (by decide) hi) mw_Y0 I L) rfl (by decide) (by omega) (by omega) (Nat.le_of_ble_eq_true rfl) ?_
  refine mw_iload_n hX dX1_lend_4 rfl rfl ?_
  refine mw_cS hX [_] ws_X1_59 dX1_lend_5 (c_checkOwner (mw_l X) (nI o) (okR_nI (n := 1) (by decide) ho) mw_Y0 I L) rfl (by decide) (by omega) (by omega) (Nat.le_of_ble_eq_true rfl) ?_
  refine mw_iload_n hX dX1_lend_8 rfl rfl ?_
  refine mw_ic hX 1 dX1_lend_9 rfl ?_
  refine mw_bp hX 100 dX1_lend_10 rfl ?_
  refine mw_cS hX [_, _, _] ws_X1_36 dX1_lend_12 (c_checkRange (mw_l X) a 1 100 ha mw_Y0 I L) rfl (by decide) (by omega) (by omega) (Nat.le_of_ble_eq_true rfl) ?_
  refine mw_aload_n hX dX1_lend_15 rfl rfl ?_
  refine mw_getR hX (r := 1) dX1_lend_16 (mw_Yl (by decide)) mw_YW fl_X1_11 (by decide) (by decide) rfl rfl ?_
  refine mw_iload_n hX dX1_lend_19 rfl rfl ?_
  refine mw_aaloadP hX (j := i) dX1_lend_20 (mw_Yl (by decide)) rfl rfl (by omega) (by decide) (mw_Yp (by omega)) ?_
  refine mw_getR hX dX1_lend_21 (mw_P0 (i := i) (by omega)).l0 (mw_P0 (i := i) (by omega)).s0 fl_X1_85 (by decide) (by decide) rfl (mw_P0 (i := i) (by omega)).r7 ?_
  refine mw_astore hX dX1_lend_24 (Nat.le_of_ble_eq_true rfl) ?_
  dsimp only [List.set]
  refine mw_aload hX dX1_lend_26 rfl ?_
  refine mw_iload_n hX dX1_lend_28 rfl rfl ?_
  refine mw_iaload hX (j := o) dX1_lend_29 (mw_P0 (i := i) (by omega)).l2 (mw_P0 (i := i) (by omega)).s2 rfl (by omega) (by decide) ?_
  refine mw_iload_n hX dX1_lend_30 rfl rfl ?_
  refine mw_icmp_ge hX (tgt := 44) dX1_lend_31 (by decide) (fun h31 => ?_) (fun h31 => ?_)
  · refine mw_ic hX 1 dX1_lend_44 rfl ?_
    refine mw_iload_n hX dX1_lend_45 rfl rfl ?_
    refine mw_isub hX dX1_lend_46 ?_
    refine mw_istore hX dX1_lend_47 (Nat.le_of_ble_eq_true rfl) ?_
    dsimp only [List.set]
    refine mw_aload hX dX1_lend_49 rfl ?_
    refine mw_iload_n hX dX1_lend_51 rfl rfl ?_
    refine mw_dup2 hX dX1_lend_52 ?_
    refine mw_iaload hX (j := o) dX1_lend_53 (mw_P0 (i := i) (by omega)).l2 (mw_P0 (i := i) (by omega)).s2 rfl (by omega) (by decide) ?_
    refine mw_iload_n hX dX1_lend_54 rfl rfl ?_
    refine mw_isub hX dX1_lend_55 ?_
    refine mw_iastore hX (j := o) dX1_lend_56 (mw_P0 (i := i) (by omega)).l2 (mw_P0 (i := i) (by omega)).s2 rfl (by omega) (by decide) ?_
    refine mw_aload hX dX1_lend_57 rfl ?_
    refine mw_iload hX dX1_lend_59 rfl ?_
    refine mw_dup2 hX dX1_lend_61 ?_
    refine mw_iaload hX (j := 1 - o) dX1_lend_62 (mw_P0 (i := i) (by omega)).l2 (mw_P0 (i := i) (by omega)).s2 (by rw [mw_n1]; exact pk_sub (by omega)) (by omega) (by decide) ?_
    refine mw_iload_n hX dX1_lend_63 rfl rfl ?_
    refine mw_iadd hX dX1_lend_64 ?_
    refine mw_iastore hX (j := 1 - o) dX1_lend_65 (mw_P0 (i := i) (by omega)).l2 (mw_P0 (i := i) (by omega)).s2 (by rw [mw_n1]; exact pk_sub (by omega)) (by omega) (by decide) ?_
    refine mw_aload_n hX dX1_lend_66 rfl rfl ?_
    refine mw_getR hX (r := 4) dX1_lend_67 (mw_Yl (by decide)) mw_YW fl_X1_22 (by decide) (by decide) rfl rfl ?_
    refine mw_iload_n hX dX1_lend_70 rfl rfl ?_
    refine mw_dup2 hX dX1_lend_71 ?_
    refine mw_iaload hX (j := o) dX1_lend_72 (mw_Yl (by decide)) rfl rfl (by omega) (by decide) ?_
    refine mw_iload_n hX dX1_lend_73 rfl rfl ?_
    refine mw_isub hX dX1_lend_74 ?_
    refine mw_iastore hX (j := o) dX1_lend_75 (mw_Yl (by decide)) rfl rfl (by omega) (by decide) ?_
    refine mw_aload_n hX dX1_lend_76 rfl rfl ?_
    refine mw_getR hX (r := 4) dX1_lend_77 (mw_Yl (by decide)) mw_YW fl_X1_22 (by decide) (by decide) rfl rfl ?_
    refine mw_iload hX dX1_lend_80 rfl ?_
    refine mw_dup2 hX dX1_lend_82 ?_
    refine mw_iaload hX (j := 1 - o) dX1_lend_83 (mw_Yl (by decide)) rfl (by rw [mw_n1]; exact pk_sub (by omega)) (by omega) (by decide) ?_
    refine mw_iload_n hX dX1_lend_84 rfl rfl ?_
    refine mw_iadd hX dX1_lend_85 ?_
    refine mw_iastore hX (j := 1 - o) dX1_lend_86 (mw_Yl (by decide)) rfl (by rw [mw_n1]; exact pk_sub (by omega)) (by omega) (by decide) ?_
    refine mw_aload hX dX1_lend_87 rfl ?_
    refine mw_iload_n hX dX1_lend_89 rfl rfl ?_
    refine mw_iaload hX (j := o) dX1_lend_90 (mw_P0 (i := i) (by omega)).l2 (mw_P0 (i := i) (by omega)).s2 rfl (by omega) (by decide) ?_
    exact mw_ireturn hX hE dX1_lend_91 (rfl) (by omega) (by omega)
  · exact absurd h31 (fun q => q hq)
set_option maxRecDepth 20000 in
theorem c_lendS (l : Launch) (I : mw_I) (i : Nat) (hi : i < 3) (o : Nat) (ho : o < 2) (a : Int32) (ha : okR a 1 100) (hq : ¬ a ≤ I ((7 + 11 * i) + 2) o) (L : mw_L) : mw_CT l yX1_lend (.code yX1_lend cX1_lend 6 (some .int)) 4 4 24 [.ref 0, .int (nI i), .int (nI o), .int a] (mw_Y0, I, L) (.inr "java/lang/IllegalStateException") := by
  refine mw_enter RX1 rfl (by decide +kernel) (mw_cat rfl) (Nat.le_of_ble_eq_true rfl) (fun X hX hl hE hT hnm => ?_)
  subst hl
  show mw_G X 0 [some (.ref 0), some (.int (nI i)), some (.int (nI o)), some (.int a), none, none] [] mw_Y0 I L 0 0
  refine mw_iload_n hX dX1_lend_0 rfl rfl ?_
  refine mw_cS hX [_] ws_X1_32 dX1_lend_1 (c_checkPlant (mw_l X) (nI i) (okR_nI (n := 2) (by decide) hi) mw_Y0 I L) rfl (by decide) (by omega) (by omega) (Nat.le_of_ble_eq_true rfl) ?_
  refine mw_iload_n hX dX1_lend_4 rfl rfl ?_
  refine mw_cS hX [_] ws_X1_59 dX1_lend_5 (c_checkOwner (mw_l X) (nI o) (okR_nI (n := 1) (by decide) ho) mw_Y0 I L) rfl (by decide) (by omega) (by omega) (Nat.le_of_ble_eq_true rfl) ?_
  refine mw_iload_n hX dX1_lend_8 rfl rfl ?_
  refine mw_ic hX 1 dX1_lend_9 rfl ?_
  refine mw_bp hX 100 dX1_lend_10 rfl ?_
  refine mw_cS hX [_, _, _] ws_X1_36 dX1_lend_12 (c_checkRange (mw_l X) a 1 100 ha mw_Y0 I L) rfl (by decide) (by omega) (by omega) (Nat.le_of_ble_eq_true rfl) ?_
  refine mw_aload_n hX dX1_lend_15 rfl rfl ?_
  refine mw_getR hX (r := 1) dX1_lend_16 (mw_Yl (by decide)) mw_YW fl_X1_11 (by decide) (by decide) rfl rfl ?_
  refine mw_iload_n hX dX1_lend_19 rfl rfl ?_
  refine mw_aaloadP hX (j := i) dX1_lend_20 (mw_Yl (by decide)) rfl rfl (by omega) (by decide) (mw_Yp (by omega)) ?_
  refine mw_getR hX dX1_lend_21 (mw_P0 (i := i) (by omega)).l0 (mw_P0 (i := i) (by omega)).s0 fl_X1_85 (by decide) (by decide) rfl (mw_P0 (i := i) (by omega)).r7 ?_
  refine mw_astore hX dX1_lend_24 (Nat.le_of_ble_eq_true rfl) ?_
  dsimp only [List.set]
  refine mw_aload hX dX1_lend_26 rfl ?_
  refine mw_iload_n hX dX1_lend_28 rfl rfl ?_
  refine mw_iaload hX (j := o) dX1_lend_29 (mw_P0 (i := i) (by omega)).l2 (mw_P0 (i := i) (by omega)).s2 rfl (by omega) (by decide) ?_
  refine mw_iload_n hX dX1_lend_30 rfl rfl ?_
  refine mw_icmp_ge hX (tgt := 44) dX1_lend_31 (by decide) (fun h31 => ?_) (fun h31 => ?_)
  · exact absurd h31 hq
  · exact mw_throw hX hE hT th_88 dX1_lend_34 dX1_lend_37 dX1_lend_38 dX1_lend_40 dX1_lend_43 (rfl) (by omega) (by omega) (by omega) (by omega) (Nat.le_of_ble_eq_true rfl)
set_option maxRecDepth 20000 in
theorem c_accountX (l : Launch) (p o : Int32) (h : ¬ (okR p 0 2 ∧ okR o 0 1)) (I : mw_I) (L : mw_L) : mw_CT l yX1_account (.code yX1_account cX1_account 3 (some .int)) 4 2 12 [.ref 0, .int p, .int o] (mw_Y0, I, L) (.inr "java/lang/IllegalArgumentException") := by
  refine mw_enter RX1 rfl (by decide +kernel) (mw_cat rfl) (Nat.le_of_ble_eq_true rfl) (fun X hX hl hE hT hnm => ?_)
  subst hl
  show mw_G X 0 [some (.ref 0), some (.int p), some (.int o)] [] mw_Y0 I L 0 0
  refine mw_iload_n hX dX1_account_0 rfl rfl ?_
  rcases Classical.em (okR p 0 2) with h1 | h1
  · refine mw_cS hX [_] ws_X1_32 dX1_account_1 (c_checkPlant (mw_l X) p h1 mw_Y0 I L) rfl (by decide) (by omega) (by omega) (Nat.le_of_ble_eq_true rfl) ?_
    refine mw_iload_n hX dX1_account_4 rfl rfl ?_
    rcases Classical.em (okR o 0 1) with h5 | h5
    · refine mw_cS hX [_] ws_X1_59 dX1_account_5 (c_checkOwner (mw_l X) o h5 mw_Y0 I L) rfl (by decide) (by omega) (by omega) (Nat.le_of_ble_eq_true rfl) ?_
      exact absurd ⟨h1, h5⟩ h
    · exact mw_cSX hX hE hT [_] ws_X1_59 dX1_account_5 (c_checkOwnerX (mw_l X) o h5 mw_Y0 I L) rfl (by decide) (by omega) (by omega) (Nat.le_of_ble_eq_true rfl) (rfl) (by omega) (by omega)
  · exact mw_cSX hX hE hT [_] ws_X1_32 dX1_account_1 (c_checkPlantX (mw_l X) p h1 mw_Y0 I L) rfl (by decide) (by omega) (by omega) (Nat.le_of_ble_eq_true rfl) (rfl) (by omega) (by omega)
set_option maxRecDepth 20000 in
theorem c_account (l : Launch) (i : Nat) (hi : i < 3) (o : Nat) (ho : o < 2) (I : mw_I) (L : mw_L) : mw_CT l yX1_account (.code yX1_account cX1_account 3 (some .int)) 4 2 12 [.ref 0, .int (nI i), .int (nI o)] (mw_Y0, I, L) (.inl (some (.int (I ((7 + 11 * i) + 2) o)), mw_Y0, I, L)) := by
  refine mw_enter RX1 rfl (by decide +kernel) (mw_cat rfl) (Nat.le_of_ble_eq_true rfl) (fun X hX hl hE hT hnm => ?_)
  subst hl
  show mw_G X 0 [some (.ref 0), some (.int (nI i)), some (.int (nI o))] [] mw_Y0 I L 0 0
  refine mw_iload_n hX dX1_account_0 rfl rfl ?_
  refine mw_cS hX [_] ws_X1_32 dX1_account_1 (c_checkPlant (mw_l X) (nI i) (okR_nI (n := 2) (by decide) hi) mw_Y0 I L) rfl (by decide) (by omega) (by omega) (Nat.le_of_ble_eq_true rfl) ?_
  refine mw_iload_n hX dX1_account_4 rfl rfl ?_
  refine mw_cS hX [_] ws_X1_59 dX1_account_5 (c_checkOwner (mw_l X) (nI o) (okR_nI (n := 1) (by decide) ho) mw_Y0 I L) rfl (by decide) (by omega) (by omega) (Nat.le_of_ble_eq_true rfl) ?_
  refine mw_aload_n hX dX1_account_8 rfl rfl ?_
  refine mw_getR hX (r := 1) dX1_account_9 (mw_Yl (by decide)) mw_YW fl_X1_11 (by decide) (by decide) rfl rfl ?_
  refine mw_iload_n hX dX1_account_12 rfl rfl ?_
  refine mw_aaloadP hX (j := i) dX1_account_13 (mw_Yl (by decide)) rfl rfl (by omega) (by decide) (mw_Yp (by omega)) ?_
  refine mw_getR hX dX1_account_14 (mw_P0 (i := i) (by omega)).l0 (mw_P0 (i := i) (by omega)).s0 fl_X1_85 (by decide) (by decide) rfl (mw_P0 (i := i) (by omega)).r7 ?_
  refine mw_iload_n hX dX1_account_17 rfl rfl ?_
  refine mw_iaload hX (j := o) dX1_account_18 (mw_P0 (i := i) (by omega)).l2 (mw_P0 (i := i) (by omega)).s2 rfl (by omega) (by decide) ?_
  exact mw_ireturn hX hE dX1_account_19 (rfl) (by omega) (by omega)
set_option maxRecDepth 20000 in
theorem c_levelX (l : Launch) (p : Int32) (h : ¬ (okR p 0 2)) (I : mw_I) (L : mw_L) : mw_CT l yX1_level (.code yX1_level cX1_level 2 (some .int)) 4 1 6 [.ref 0, .int p] (mw_Y0, I, L) (.inr "java/lang/IllegalArgumentException") := by
  refine mw_enter RX1 rfl (by decide +kernel) (mw_cat rfl) (Nat.le_of_ble_eq_true rfl) (fun X hX hl hE hT hnm => ?_)
  subst hl
  show mw_G X 0 [some (.ref 0), some (.int p)] [] mw_Y0 I L 0 0
  refine mw_iload_n hX dX1_level_0 rfl rfl ?_
  rcases Classical.em (okR p 0 2) with h1 | h1
  · refine mw_cS hX [_] ws_X1_32 dX1_level_1 (c_checkPlant (mw_l X) p h1 mw_Y0 I L) rfl (by decide) (by omega) (by omega) (Nat.le_of_ble_eq_true rfl) ?_
    exact absurd h1 h
  · exact mw_cSX hX hE hT [_] ws_X1_32 dX1_level_1 (c_checkPlantX (mw_l X) p h1 mw_Y0 I L) rfl (by decide) (by omega) (by omega) (Nat.le_of_ble_eq_true rfl) (rfl) (by omega) (by omega)
set_option maxRecDepth 20000 in
theorem c_level (l : Launch) (i : Nat) (hi : i < 3) (I : mw_I) (L : mw_L) : mw_CT l yX1_level (.code yX1_level cX1_level 2 (some .int)) 4 1 6 [.ref 0, .int (nI i)] (mw_Y0, I, L) (.inl (some (.int (waterV I (7 + 11 * i))), mw_Y0, I, L)) := by
  refine mw_enter RX1 rfl (by decide +kernel) (mw_cat rfl) (Nat.le_of_ble_eq_true rfl) (fun X hX hl hE hT hnm => ?_)
  subst hl
  show mw_G X 0 [some (.ref 0), some (.int (nI i))] [] mw_Y0 I L 0 0
  refine mw_iload_n hX dX1_level_0 rfl rfl ?_
  refine mw_cS hX [_] ws_X1_32 dX1_level_1 (c_checkPlant (mw_l X) (nI i) (okR_nI (n := 2) (by decide) hi) mw_Y0 I L) rfl (by decide) (by omega) (by omega) (Nat.le_of_ble_eq_true rfl) ?_
  refine mw_aload_n hX dX1_level_4 rfl rfl ?_
  refine mw_getR hX (r := 1) dX1_level_5 (mw_Yl (by decide)) mw_YW fl_X1_11 (by decide) (by decide) rfl rfl ?_
  refine mw_iload_n hX dX1_level_8 rfl rfl ?_
  refine mw_aaloadP hX (j := i) dX1_level_9 (mw_Yl (by decide)) rfl rfl (by omega) (by decide) (mw_Yp (by omega)) ?_
  refine mw_cV hX [] ws_X1_90 dX1_level_10 (c_waterInPond (mw_l X) mw_Y0 _ (mw_P0 hi) I L) (mw_P0 (i := i) (by omega)).l0 (mw_P0 (i := i) (by omega)).s0 (by decide) rfl (by decide) (by omega) (by omega) (Nat.le_of_ble_eq_true rfl) ?_
  exact mw_ireturn hX hE dX1_level_13 (rfl) (by omega) (by omega)
set_option maxRecDepth 20000 in
theorem c_travellingX (l : Launch) (p o : Int32) (h : ¬ (okR p 1 2 ∧ okR o 0 1)) (I : mw_I) (L : mw_L) : mw_CT l yX1_travelling (.code yX1_travelling cX1_travelling 3 (some .int)) 4 2 12 [.ref 0, .int p, .int o] (mw_Y0, I, L) (.inr "java/lang/IllegalArgumentException") := by
  refine mw_enter RX1 rfl (by decide +kernel) (mw_cat rfl) (Nat.le_of_ble_eq_true rfl) (fun X hX hl hE hT hnm => ?_)
  subst hl
  show mw_G X 0 [some (.ref 0), some (.int p), some (.int o)] [] mw_Y0 I L 0 0
  refine mw_iload_n hX dX1_travelling_0 rfl rfl ?_
  rcases Classical.em (okR p 1 2) with h1 | h1
  · refine mw_cS hX [_] ws_X1_94 dX1_travelling_1 (c_checkLowerPlant (mw_l X) p h1 mw_Y0 I L) rfl (by decide) (by omega) (by omega) (Nat.le_of_ble_eq_true rfl) ?_
    refine mw_iload_n hX dX1_travelling_4 rfl rfl ?_
    rcases Classical.em (okR o 0 1) with h5 | h5
    · refine mw_cS hX [_] ws_X1_59 dX1_travelling_5 (c_checkOwner (mw_l X) o h5 mw_Y0 I L) rfl (by decide) (by omega) (by omega) (Nat.le_of_ble_eq_true rfl) ?_
      exact absurd ⟨h1, h5⟩ h
    · exact mw_cSX hX hE hT [_] ws_X1_59 dX1_travelling_5 (c_checkOwnerX (mw_l X) o h5 mw_Y0 I L) rfl (by decide) (by omega) (by omega) (Nat.le_of_ble_eq_true rfl) (rfl) (by omega) (by omega)
  · exact mw_cSX hX hE hT [_] ws_X1_94 dX1_travelling_1 (c_checkLowerPlantX (mw_l X) p h1 mw_Y0 I L) rfl (by decide) (by omega) (by omega) (Nat.le_of_ble_eq_true rfl) (rfl) (by omega) (by omega)
set_option maxRecDepth 20000 in
theorem c_travelling (l : Launch) (i : Nat) (h0 : 1 ≤ i) (hi : i < 3) (o : Nat) (ho : o < 2) (I : mw_I) (L : mw_L) : mw_CT l yX1_travelling (.code yX1_travelling cX1_travelling 3 (some .int)) 4 2 12 [.ref 0, .int (nI i), .int (nI o)] (mw_Y0, I, L) (.inl (some (.int (sumV I (7 + 11 * i) o)), mw_Y0, I, L)) := by
  refine mw_enter RX1 rfl (by decide +kernel) (mw_cat rfl) (Nat.le_of_ble_eq_true rfl) (fun X hX hl hE hT hnm => ?_)
  subst hl
  show mw_G X 0 [some (.ref 0), some (.int (nI i)), some (.int (nI o))] [] mw_Y0 I L 0 0
  refine mw_iload_n hX dX1_travelling_0 rfl rfl ?_
  refine mw_cS hX [_] ws_X1_94 dX1_travelling_1 (c_checkLowerPlant (mw_l X) (nI i) (okR_low h0 hi) mw_Y0 I L) rfl (by decide) (by omega) (by omega) (Nat.le_of_ble_eq_true rfl) ?_
  refine mw_iload_n hX dX1_travelling_4 rfl rfl ?_
  refine mw_cS hX [_] ws_X1_59 dX1_travelling_5 (c_checkOwner (mw_l X) (nI o) (okR_nI (n := 1) (by decide) ho) mw_Y0 I L) rfl (by decide) (by omega) (by omega) (Nat.le_of_ble_eq_true rfl) ?_
  refine mw_aload_n hX dX1_travelling_8 rfl rfl ?_
  refine mw_getR hX (r := 1) dX1_travelling_9 (mw_Yl (by decide)) mw_YW fl_X1_11 (by decide) (by decide) rfl rfl ?_
  refine mw_iload_n hX dX1_travelling_12 rfl rfl ?_
  refine mw_aaloadP hX (j := i) dX1_travelling_13 (mw_Yl (by decide)) rfl rfl (by omega) (by decide) (mw_Yp (by omega)) ?_
  refine mw_iload_n hX dX1_travelling_14 rfl rfl ?_
  refine mw_cV hX [_] ws_X1_97 dX1_travelling_15 (c_allUnderWay (mw_l X) mw_Y0 _ (mw_P0 hi) o ho I L) (mw_P0 (i := i) (by omega)).l0 (mw_P0 (i := i) (by omega)).s0 (by decide) rfl (by decide) (by omega) (by omega) (Nat.le_of_ble_eq_true rfl) ?_
  exact mw_ireturn hX hE dX1_travelling_18 (rfl) (by omega) (by omega)
def arriveV (I : mw_I) (b o t h : Nat) : Int32 := if t < h ∨ h + 5 < t then 0 else I (b + 5 + o) (t % 6)
set_option maxRecDepth 20000 in
theorem c_arrivingX (l : Launch) (p o t : Int32) (h : ¬ (okR p 1 2 ∧ okR o 0 1 ∧ okR t 0 300)) (I : mw_I) (L : mw_L) : mw_CT l yX1_arriving (.code yX1_arriving cX1_arriving 4 (some .int)) 4 3 18 [.ref 0, .int p, .int o, .int t] (mw_Y0, I, L) (.inr "java/lang/IllegalArgumentException") := by
  refine mw_enter RX1 rfl (by decide +kernel) (mw_cat rfl) (Nat.le_of_ble_eq_true rfl) (fun X hX hl hE hT hnm => ?_)
  subst hl
  show mw_G X 0 [some (.ref 0), some (.int p), some (.int o), some (.int t)] [] mw_Y0 I L 0 0
  refine mw_iload_n hX dX1_arriving_0 rfl rfl ?_
  rcases Classical.em (okR p 1 2) with h1 | h1
  · refine mw_cS hX [_] ws_X1_94 dX1_arriving_1 (c_checkLowerPlant (mw_l X) p h1 mw_Y0 I L) rfl (by decide) (by omega) (by omega) (Nat.le_of_ble_eq_true rfl) ?_
    refine mw_iload_n hX dX1_arriving_4 rfl rfl ?_
    rcases Classical.em (okR o 0 1) with h5 | h5
    · refine mw_cS hX [_] ws_X1_59 dX1_arriving_5 (c_checkOwner (mw_l X) o h5 mw_Y0 I L) rfl (by decide) (by omega) (by omega) (Nat.le_of_ble_eq_true rfl) ?_
      refine mw_iload_n hX dX1_arriving_8 rfl rfl ?_
      refine mw_ic hX 0 dX1_arriving_9 rfl ?_
      refine mw_sp hX 300 dX1_arriving_10 rfl ?_
      rcases Classical.em (okR t 0 300) with h13 | h13
      · refine mw_cS hX [_, _, _] ws_X1_36 dX1_arriving_13 (c_checkRange (mw_l X) t 0 300 h13 mw_Y0 I L) rfl (by decide) (by omega) (by omega) (Nat.le_of_ble_eq_true rfl) ?_
        exact absurd ⟨h1, h5, h13⟩ h
      · exact mw_cSX hX hE hT [_, _, _] ws_X1_36 dX1_arriving_13 (c_checkRangeX (mw_l X) t 0 300 h13 mw_Y0 I L) rfl (by decide) (by omega) (by omega) (Nat.le_of_ble_eq_true rfl) (rfl) (by omega) (by omega)
    · exact mw_cSX hX hE hT [_] ws_X1_59 dX1_arriving_5 (c_checkOwnerX (mw_l X) o h5 mw_Y0 I L) rfl (by decide) (by omega) (by omega) (Nat.le_of_ble_eq_true rfl) (rfl) (by omega) (by omega)
  · exact mw_cSX hX hE hT [_] ws_X1_94 dX1_arriving_1 (c_checkLowerPlantX (mw_l X) p h1 mw_Y0 I L) rfl (by decide) (by omega) (by omega) (Nat.le_of_ble_eq_true rfl) (rfl) (by omega) (by omega)
set_option maxRecDepth 20000 in
theorem c_arriving (l : Launch) (I : mw_I) (i : Nat) (h0 : 1 ≤ i) (hi : i < 3) (o : Nat) (ho : o < 2) (t : Nat) (ht : t < 301) (h : Nat) (hh : h < 201) (hH : I 0 6 = nI h) (L : mw_L) : mw_CT l yX1_arriving (.code yX1_arriving cX1_arriving 4 (some .int)) 4 3 18 [.ref 0, .int (nI i), .int (nI o), .int (nI t)] (mw_Y0, I, L) (.inl (some (.int (arriveV I (7 + 11 * i) o t h)), mw_Y0, I, L)) := by
  refine mw_enter RX1 rfl (by decide +kernel) (mw_cat rfl) (Nat.le_of_ble_eq_true rfl) (fun X hX hl hE hT hnm => ?_)
  subst hl
  show mw_G X 0 [some (.ref 0), some (.int (nI i)), some (.int (nI o)), some (.int (nI t))] [] mw_Y0 I L 0 0
  refine mw_iload_n hX dX1_arriving_0 rfl rfl ?_
  refine mw_cS hX [_] ws_X1_94 dX1_arriving_1 (c_checkLowerPlant (mw_l X) (nI i) (okR_low h0 hi) mw_Y0 I L) rfl (by decide) (by omega) (by omega) (Nat.le_of_ble_eq_true rfl) ?_
  refine mw_iload_n hX dX1_arriving_4 rfl rfl ?_
  refine mw_cS hX [_] ws_X1_59 dX1_arriving_5 (c_checkOwner (mw_l X) (nI o) (okR_nI (n := 1) (by decide) ho) mw_Y0 I L) rfl (by decide) (by omega) (by omega) (Nat.le_of_ble_eq_true rfl) ?_
  refine mw_iload_n hX dX1_arriving_8 rfl rfl ?_
  refine mw_ic hX 0 dX1_arriving_9 rfl ?_
  refine mw_sp hX 300 dX1_arriving_10 rfl ?_
  refine mw_cS hX [_, _, _] ws_X1_36 dX1_arriving_13 (c_checkRange (mw_l X) (nI t) 0 300 (okR_nI (n := 300) (by decide) ht) mw_Y0 I L) rfl (by decide) (by omega) (by omega) (Nat.le_of_ble_eq_true rfl) ?_
  refine mw_iload_n hX dX1_arriving_16 rfl rfl ?_
  refine mw_aload_n hX dX1_arriving_17 rfl rfl ?_
  refine mw_getI hX dX1_arriving_18 (mw_Yl (by decide)) mw_YW fl_X1_72 (by decide) (by decide) rfl ?_
  refine mw_icmp_lt hX (tgt := 34) dX1_arriving_21 (by decide) (fun h21 => ?_) (fun h21 => ?_)
  · rw [hH] at h21
    have q21 := (nI_ltI (by omega) (by omega)).mp h21
    refine mw_ic hX 0 dX1_arriving_34 rfl ?_
    exact mw_ireturn hX hE dX1_arriving_35 (by rw [arriveV, if_pos (Or.inl q21)]) (by omega) (by omega)
  · rw [hH] at h21
    have q21 := fun q => h21 ((nI_ltI (by omega) (by omega)).mpr q)
    refine mw_iload_n hX dX1_arriving_24 rfl rfl ?_
    refine mw_aload_n hX dX1_arriving_25 rfl rfl ?_
    refine mw_getI hX dX1_arriving_26 (mw_Yl (by decide)) mw_YW fl_X1_72 (by decide) (by decide) rfl ?_
    refine mw_ic hX 5 dX1_arriving_29 rfl ?_
    refine mw_iadd hX dX1_arriving_30 ?_
    refine mw_icmp_le hX (tgt := 36) dX1_arriving_31 (by decide) (fun h31 => ?_) (fun h31 => ?_)
    · rw [hH, mw_n5, nI_add] at h31
      have q31 := (nI_leI (by omega) (by omega)).mp h31
      refine mw_aload_n hX dX1_arriving_36 rfl rfl ?_
      refine mw_getR hX (r := 1) dX1_arriving_37 (mw_Yl (by decide)) mw_YW fl_X1_11 (by decide) (by decide) rfl rfl ?_
      refine mw_iload_n hX dX1_arriving_40 rfl rfl ?_
      refine mw_aaloadP hX (j := i) dX1_arriving_41 (mw_Yl (by decide)) rfl rfl (by omega) (by decide) (mw_Yp (by omega)) ?_
      refine mw_getR hX dX1_arriving_42 (mw_P0 (i := i) (by omega)).l0 (mw_P0 (i := i) (by omega)).s0 fl_X1_101 (by decide) (by decide) rfl (mw_P0 (i := i) (by omega)).r9 ?_
      refine mw_iload_n hX dX1_arriving_45 rfl rfl ?_
      refine mw_aaloadR hX (j := o) dX1_arriving_46 (mw_P0 (i := i) (by omega)).l4 (mw_P0 (i := i) (by omega)).s4 rfl (by omega) (by decide) ((mw_P0 (i := i) (by omega)).u (by omega)) ?_
      refine mw_iload_n hX dX1_arriving_47 rfl rfl ?_
      refine mw_cS hX [_] ws_X1_104 dX1_arriving_48 (c_slotOf (mw_l X) t (by omega) mw_Y0 I L) rfl (by decide) (by omega) (by omega) (Nat.le_of_ble_eq_true rfl) ?_
      refine mw_iaload hX (j := t % 6) dX1_arriving_51 ((mw_P0 (i := i) (by omega)).l5 (o := o) (by omega)) ((mw_P0 (i := i) (by omega)).s5 (o := o) (by omega)) rfl (by omega) (by decide) ?_
      exact mw_ireturn hX hE dX1_arriving_52 (by rw [arriveV, if_neg (fun q => q.elim q21 (fun q => by omega))]) (by omega) (by omega)
    · rw [hH, mw_n5, nI_add] at h31
      have q31 : ¬ t ≤ h + 5 := fun q => h31 ((nI_leI (by omega) (by omega)).mpr q)
      refine mw_ic hX 0 dX1_arriving_34 rfl ?_
      exact mw_ireturn hX hE dX1_arriving_35 (by rw [arriveV, if_pos (Or.inr (by omega))]) (by omega) (by omega)
set_option maxRecDepth 20000 in
theorem c_cameInX (l : Launch) (o : Int32) (h : ¬ (okR o 0 1)) (I : mw_I) (L : mw_L) : mw_CT l yX1_cameIn (.code yX1_cameIn cX1_cameIn 2 (some .int)) 4 1 6 [.ref 0, .int o] (mw_Y0, I, L) (.inr "java/lang/IllegalArgumentException") := by
  refine mw_enter RX1 rfl (by decide +kernel) (mw_cat rfl) (Nat.le_of_ble_eq_true rfl) (fun X hX hl hE hT hnm => ?_)
  subst hl
  show mw_G X 0 [some (.ref 0), some (.int o)] [] mw_Y0 I L 0 0
  refine mw_iload_n hX dX1_cameIn_0 rfl rfl ?_
  rcases Classical.em (okR o 0 1) with h1 | h1
  · refine mw_cS hX [_] ws_X1_59 dX1_cameIn_1 (c_checkOwner (mw_l X) o h1 mw_Y0 I L) rfl (by decide) (by omega) (by omega) (Nat.le_of_ble_eq_true rfl) ?_
    exact absurd h1 h
  · exact mw_cSX hX hE hT [_] ws_X1_59 dX1_cameIn_1 (c_checkOwnerX (mw_l X) o h1 mw_Y0 I L) rfl (by decide) (by omega) (by omega) (Nat.le_of_ble_eq_true rfl) (rfl) (by omega) (by omega)
set_option maxRecDepth 20000 in
theorem c_cameIn (l : Launch) (o : Nat) (ho : o < 2) (I : mw_I) (L : mw_L) : mw_CT l yX1_cameIn (.code yX1_cameIn cX1_cameIn 2 (some .int)) 4 1 6 [.ref 0, .int (nI o)] (mw_Y0, I, L) (.inl (some (.int (I 2 o)), mw_Y0, I, L)) := by
  refine mw_enter RX1 rfl (by decide +kernel) (mw_cat rfl) (Nat.le_of_ble_eq_true rfl) (fun X hX hl hE hT hnm => ?_)
  subst hl
  show mw_G X 0 [some (.ref 0), some (.int (nI o))] [] mw_Y0 I L 0 0
  refine mw_iload_n hX dX1_cameIn_0 rfl rfl ?_
  refine mw_cS hX [_] ws_X1_59 dX1_cameIn_1 (c_checkOwner (mw_l X) (nI o) (okR_nI (n := 1) (by decide) ho) mw_Y0 I L) rfl (by decide) (by omega) (by omega) (Nat.le_of_ble_eq_true rfl) ?_
  refine mw_aload_n hX dX1_cameIn_4 rfl rfl ?_
  refine mw_getR hX (r := 2) dX1_cameIn_5 (mw_Yl (by decide)) mw_YW fl_X1_15 (by decide) (by decide) rfl rfl ?_
  refine mw_iload_n hX dX1_cameIn_8 rfl rfl ?_
  refine mw_iaload hX (j := o) dX1_cameIn_9 (mw_Yl (by decide)) rfl rfl (by omega) (by decide) ?_
  exact mw_ireturn hX hE dX1_cameIn_10 (rfl) (by omega) (by omega)
set_option maxRecDepth 20000 in
theorem c_goneX (l : Launch) (o : Int32) (h : ¬ (okR o 0 1)) (I : mw_I) (L : mw_L) : mw_CT l yX1_gone (.code yX1_gone cX1_gone 2 (some .int)) 4 1 6 [.ref 0, .int o] (mw_Y0, I, L) (.inr "java/lang/IllegalArgumentException") := by
  refine mw_enter RX1 rfl (by decide +kernel) (mw_cat rfl) (Nat.le_of_ble_eq_true rfl) (fun X hX hl hE hT hnm => ?_)
  subst hl
  show mw_G X 0 [some (.ref 0), some (.int o)] [] mw_Y0 I L 0 0
  refine mw_iload_n hX dX1_gone_0 rfl rfl ?_
  rcases Classical.em (okR o 0 1) with h1 | h1
  · refine mw_cS hX [_] ws_X1_59 dX1_gone_1 (c_checkOwner (mw_l X) o h1 mw_Y0 I L) rfl (by decide) (by omega) (by omega) (Nat.le_of_ble_eq_true rfl) ?_
    exact absurd h1 h
  · exact mw_cSX hX hE hT [_] ws_X1_59 dX1_gone_1 (c_checkOwnerX (mw_l X) o h1 mw_Y0 I L) rfl (by decide) (by omega) (by omega) (Nat.le_of_ble_eq_true rfl) (rfl) (by omega) (by omega)
set_option maxRecDepth 20000 in
theorem c_gone (l : Launch) (o : Nat) (ho : o < 2) (I : mw_I) (L : mw_L) : mw_CT l yX1_gone (.code yX1_gone cX1_gone 2 (some .int)) 4 1 6 [.ref 0, .int (nI o)] (mw_Y0, I, L) (.inl (some (.int (I 3 o)), mw_Y0, I, L)) := by
  refine mw_enter RX1 rfl (by decide +kernel) (mw_cat rfl) (Nat.le_of_ble_eq_true rfl) (fun X hX hl hE hT hnm => ?_)
  subst hl
  show mw_G X 0 [some (.ref 0), some (.int (nI o))] [] mw_Y0 I L 0 0
  refine mw_iload_n hX dX1_gone_0 rfl rfl ?_
  refine mw_cS hX [_] ws_X1_59 dX1_gone_1 (c_checkOwner (mw_l X) (nI o) (okR_nI (n := 1) (by decide) ho) mw_Y0 I L) rfl (by decide) (by omega) (by omega) (Nat.le_of_ble_eq_true rfl) ?_
  refine mw_aload_n hX dX1_gone_4 rfl rfl ?_
  refine mw_getR hX (r := 3) dX1_gone_5 (mw_Yl (by decide)) mw_YW fl_X1_19 (by decide) (by decide) rfl rfl ?_
  refine mw_iload_n hX dX1_gone_8 rfl rfl ?_
  refine mw_iaload hX (j := o) dX1_gone_9 (mw_Yl (by decide)) rfl rfl (by omega) (by decide) ?_
  exact mw_ireturn hX hE dX1_gone_10 (rfl) (by omega) (by omega)
set_option maxRecDepth 20000 in
theorem c_balanceX (l : Launch) (o : Int32) (h : ¬ (okR o 0 1)) (I : mw_I) (L : mw_L) : mw_CT l yX1_balance (.code yX1_balance cX1_balance 2 (some .int)) 4 1 6 [.ref 0, .int o] (mw_Y0, I, L) (.inr "java/lang/IllegalArgumentException") := by
  refine mw_enter RX1 rfl (by decide +kernel) (mw_cat rfl) (Nat.le_of_ble_eq_true rfl) (fun X hX hl hE hT hnm => ?_)
  subst hl
  show mw_G X 0 [some (.ref 0), some (.int o)] [] mw_Y0 I L 0 0
  refine mw_iload_n hX dX1_balance_0 rfl rfl ?_
  rcases Classical.em (okR o 0 1) with h1 | h1
  · refine mw_cS hX [_] ws_X1_59 dX1_balance_1 (c_checkOwner (mw_l X) o h1 mw_Y0 I L) rfl (by decide) (by omega) (by omega) (Nat.le_of_ble_eq_true rfl) ?_
    exact absurd h1 h
  · exact mw_cSX hX hE hT [_] ws_X1_59 dX1_balance_1 (c_checkOwnerX (mw_l X) o h1 mw_Y0 I L) rfl (by decide) (by omega) (by omega) (Nat.le_of_ble_eq_true rfl) (rfl) (by omega) (by omega)
set_option maxRecDepth 20000 in
theorem c_balance (l : Launch) (o : Nat) (ho : o < 2) (I : mw_I) (L : mw_L) : mw_CT l yX1_balance (.code yX1_balance cX1_balance 2 (some .int)) 4 1 6 [.ref 0, .int (nI o)] (mw_Y0, I, L) (.inl (some (.int (I 2 o - I 3 o + I 4 o)), mw_Y0, I, L)) := by
  refine mw_enter RX1 rfl (by decide +kernel) (mw_cat rfl) (Nat.le_of_ble_eq_true rfl) (fun X hX hl hE hT hnm => ?_)
  subst hl
  show mw_G X 0 [some (.ref 0), some (.int (nI o))] [] mw_Y0 I L 0 0
  refine mw_iload_n hX dX1_balance_0 rfl rfl ?_
  refine mw_cS hX [_] ws_X1_59 dX1_balance_1 (c_checkOwner (mw_l X) (nI o) (okR_nI (n := 1) (by decide) ho) mw_Y0 I L) rfl (by decide) (by omega) (by omega) (Nat.le_of_ble_eq_true rfl) ?_
  refine mw_aload_n hX dX1_balance_4 rfl rfl ?_
  refine mw_getR hX (r := 2) dX1_balance_5 (mw_Yl (by decide)) mw_YW fl_X1_15 (by decide) (by decide) rfl rfl ?_
  refine mw_iload_n hX dX1_balance_8 rfl rfl ?_
  refine mw_iaload hX (j := o) dX1_balance_9 (mw_Yl (by decide)) rfl rfl (by omega) (by decide) ?_
  refine mw_aload_n hX dX1_balance_10 rfl rfl ?_
  refine mw_getR hX (r := 3) dX1_balance_11 (mw_Yl (by decide)) mw_YW fl_X1_19 (by decide) (by decide) rfl rfl ?_
  refine mw_iload_n hX dX1_balance_14 rfl rfl ?_
  refine mw_iaload hX (j := o) dX1_balance_15 (mw_Yl (by decide)) rfl rfl (by omega) (by decide) ?_
  refine mw_isub hX dX1_balance_16 ?_
  refine mw_aload_n hX dX1_balance_17 rfl rfl ?_
  refine mw_getR hX (r := 4) dX1_balance_18 (mw_Yl (by decide)) mw_YW fl_X1_22 (by decide) (by decide) rfl rfl ?_
  refine mw_iload_n hX dX1_balance_21 rfl rfl ?_
  refine mw_iaload hX (j := o) dX1_balance_22 (mw_Yl (by decide)) rfl rfl (by omega) (by decide) ?_
  refine mw_iadd hX dX1_balance_23 ?_
  exact mw_ireturn hX hE dX1_balance_24 (rfl) (by omega) (by omega)
set_option maxRecDepth 20000 in
theorem c_spilledX (l : Launch) (p : Int32) (h : ¬ (okR p 0 2)) (I : mw_I) (L : mw_L) : mw_CT l yX1_spilled (.code yX1_spilled cX1_spilled 2 (some .int)) 4 1 6 [.ref 0, .int p] (mw_Y0, I, L) (.inr "java/lang/IllegalArgumentException") := by
  refine mw_enter RX1 rfl (by decide +kernel) (mw_cat rfl) (Nat.le_of_ble_eq_true rfl) (fun X hX hl hE hT hnm => ?_)
  subst hl
  show mw_G X 0 [some (.ref 0), some (.int p)] [] mw_Y0 I L 0 0
  refine mw_iload_n hX dX1_spilled_0 rfl rfl ?_
  rcases Classical.em (okR p 0 2) with h1 | h1
  · refine mw_cS hX [_] ws_X1_32 dX1_spilled_1 (c_checkPlant (mw_l X) p h1 mw_Y0 I L) rfl (by decide) (by omega) (by omega) (Nat.le_of_ble_eq_true rfl) ?_
    exact absurd h1 h
  · exact mw_cSX hX hE hT [_] ws_X1_32 dX1_spilled_1 (c_checkPlantX (mw_l X) p h1 mw_Y0 I L) rfl (by decide) (by omega) (by omega) (Nat.le_of_ble_eq_true rfl) (rfl) (by omega) (by omega)
set_option maxRecDepth 20000 in
theorem c_spilled (l : Launch) (i : Nat) (hi : i < 3) (I : mw_I) (L : mw_L) : mw_CT l yX1_spilled (.code yX1_spilled cX1_spilled 2 (some .int)) 4 1 6 [.ref 0, .int (nI i)] (mw_Y0, I, L) (.inl (some (.int (I (7 + 11 * i) 12)), mw_Y0, I, L)) := by
  refine mw_enter RX1 rfl (by decide +kernel) (mw_cat rfl) (Nat.le_of_ble_eq_true rfl) (fun X hX hl hE hT hnm => ?_)
  subst hl
  show mw_G X 0 [some (.ref 0), some (.int (nI i))] [] mw_Y0 I L 0 0
  refine mw_iload_n hX dX1_spilled_0 rfl rfl ?_
  refine mw_cS hX [_] ws_X1_32 dX1_spilled_1 (c_checkPlant (mw_l X) (nI i) (okR_nI (n := 2) (by decide) hi) mw_Y0 I L) rfl (by decide) (by omega) (by omega) (Nat.le_of_ble_eq_true rfl) ?_
  refine mw_aload_n hX dX1_spilled_4 rfl rfl ?_
  refine mw_getR hX (r := 1) dX1_spilled_5 (mw_Yl (by decide)) mw_YW fl_X1_11 (by decide) (by decide) rfl rfl ?_
  refine mw_iload_n hX dX1_spilled_8 rfl rfl ?_
  refine mw_aaloadP hX (j := i) dX1_spilled_9 (mw_Yl (by decide)) rfl rfl (by omega) (by decide) (mw_Yp (by omega)) ?_
  refine mw_getI hX dX1_spilled_10 (mw_P0 (i := i) (by omega)).l0 (mw_P0 (i := i) (by omega)).s0 fl_X1_107 (by decide) (by decide) rfl ?_
  exact mw_ireturn hX hE dX1_spilled_13 (rfl) (by omega) (by omega)
set_option maxRecDepth 20000 in
theorem c_missedX (l : Launch) (p : Int32) (h : ¬ (okR p 0 2)) (I : mw_I) (L : mw_L) : mw_CT l yX1_missed (.code yX1_missed cX1_missed 2 (some .int)) 4 1 6 [.ref 0, .int p] (mw_Y0, I, L) (.inr "java/lang/IllegalArgumentException") := by
  refine mw_enter RX1 rfl (by decide +kernel) (mw_cat rfl) (Nat.le_of_ble_eq_true rfl) (fun X hX hl hE hT hnm => ?_)
  subst hl
  show mw_G X 0 [some (.ref 0), some (.int p)] [] mw_Y0 I L 0 0
  refine mw_iload_n hX dX1_missed_0 rfl rfl ?_
  rcases Classical.em (okR p 0 2) with h1 | h1
  · refine mw_cS hX [_] ws_X1_32 dX1_missed_1 (c_checkPlant (mw_l X) p h1 mw_Y0 I L) rfl (by decide) (by omega) (by omega) (Nat.le_of_ble_eq_true rfl) ?_
    exact absurd h1 h
  · exact mw_cSX hX hE hT [_] ws_X1_32 dX1_missed_1 (c_checkPlantX (mw_l X) p h1 mw_Y0 I L) rfl (by decide) (by omega) (by omega) (Nat.le_of_ble_eq_true rfl) (rfl) (by omega) (by omega)
set_option maxRecDepth 20000 in
theorem c_missed (l : Launch) (i : Nat) (hi : i < 3) (I : mw_I) (L : mw_L) : mw_CT l yX1_missed (.code yX1_missed cX1_missed 2 (some .int)) 4 1 6 [.ref 0, .int (nI i)] (mw_Y0, I, L) (.inl (some (.int (I (7 + 11 * i) 13)), mw_Y0, I, L)) := by
  refine mw_enter RX1 rfl (by decide +kernel) (mw_cat rfl) (Nat.le_of_ble_eq_true rfl) (fun X hX hl hE hT hnm => ?_)
  subst hl
  show mw_G X 0 [some (.ref 0), some (.int (nI i))] [] mw_Y0 I L 0 0
  refine mw_iload_n hX dX1_missed_0 rfl rfl ?_
  refine mw_cS hX [_] ws_X1_32 dX1_missed_1 (c_checkPlant (mw_l X) (nI i) (okR_nI (n := 2) (by decide) hi) mw_Y0 I L) rfl (by decide) (by omega) (by omega) (Nat.le_of_ble_eq_true rfl) ?_
  refine mw_aload_n hX dX1_missed_4 rfl rfl ?_
  refine mw_getR hX (r := 1) dX1_missed_5 (mw_Yl (by decide)) mw_YW fl_X1_11 (by decide) (by decide) rfl rfl ?_
  refine mw_iload_n hX dX1_missed_8 rfl rfl ?_
  refine mw_aaloadP hX (j := i) dX1_missed_9 (mw_Yl (by decide)) rfl rfl (by omega) (by decide) (mw_Yp (by omega)) ?_
  refine mw_getI hX dX1_missed_10 (mw_P0 (i := i) (by omega)).l0 (mw_P0 (i := i) (by omega)).s0 fl_X1_110 (by decide) (by decide) rfl ?_
  exact mw_ireturn hX hE dX1_missed_13 (rfl) (by omega) (by omega)
set_option maxRecDepth 20000 in
theorem c_flowX (l : Launch) (p : Int32) (h : ¬ (okR p 0 2)) (I : mw_I) (L : mw_L) : mw_CT l yX1_flow (.code yX1_flow cX1_flow 2 (some .int)) 4 1 6 [.ref 0, .int p] (mw_Y0, I, L) (.inr "java/lang/IllegalArgumentException") := by
  refine mw_enter RX1 rfl (by decide +kernel) (mw_cat rfl) (Nat.le_of_ble_eq_true rfl) (fun X hX hl hE hT hnm => ?_)
  subst hl
  show mw_G X 0 [some (.ref 0), some (.int p)] [] mw_Y0 I L 0 0
  refine mw_iload_n hX dX1_flow_0 rfl rfl ?_
  rcases Classical.em (okR p 0 2) with h1 | h1
  · refine mw_cS hX [_] ws_X1_32 dX1_flow_1 (c_checkPlant (mw_l X) p h1 mw_Y0 I L) rfl (by decide) (by omega) (by omega) (Nat.le_of_ble_eq_true rfl) ?_
    exact absurd h1 h
  · exact mw_cSX hX hE hT [_] ws_X1_32 dX1_flow_1 (c_checkPlantX (mw_l X) p h1 mw_Y0 I L) rfl (by decide) (by omega) (by omega) (Nat.le_of_ble_eq_true rfl) (rfl) (by omega) (by omega)
set_option maxRecDepth 20000 in
theorem c_flow (l : Launch) (i : Nat) (hi : i < 3) (I : mw_I) (L : mw_L) : mw_CT l yX1_flow (.code yX1_flow cX1_flow 2 (some .int)) 4 1 6 [.ref 0, .int (nI i)] (mw_Y0, I, L) (.inl (some (.int (I (7 + 11 * i) 14)), mw_Y0, I, L)) := by
  refine mw_enter RX1 rfl (by decide +kernel) (mw_cat rfl) (Nat.le_of_ble_eq_true rfl) (fun X hX hl hE hT hnm => ?_)
  subst hl
  show mw_G X 0 [some (.ref 0), some (.int (nI i))] [] mw_Y0 I L 0 0
  refine mw_iload_n hX dX1_flow_0 rfl rfl ?_
  refine mw_cS hX [_] ws_X1_32 dX1_flow_1 (c_checkPlant (mw_l X) (nI i) (okR_nI (n := 2) (by decide) hi) mw_Y0 I L) rfl (by decide) (by omega) (by omega) (Nat.le_of_ble_eq_true rfl) ?_
  refine mw_aload_n hX dX1_flow_4 rfl rfl ?_
  refine mw_getR hX (r := 1) dX1_flow_5 (mw_Yl (by decide)) mw_YW fl_X1_11 (by decide) (by decide) rfl rfl ?_
  refine mw_iload_n hX dX1_flow_8 rfl rfl ?_
  refine mw_aaloadP hX (j := i) dX1_flow_9 (mw_Yl (by decide)) rfl rfl (by omega) (by decide) (mw_Yp (by omega)) ?_
  refine mw_getI hX dX1_flow_10 (mw_P0 (i := i) (by omega)).l0 (mw_P0 (i := i) (by omega)).s0 fl_X1_113 (by decide) (by decide) rfl ?_
  exact mw_ireturn hX hE dX1_flow_13 (rfl) (by omega) (by omega)
set_option maxRecDepth 20000 in
theorem c_energyX (l : Launch) (p : Int32) (h : ¬ (okR p 0 2)) (I : mw_I) (L : mw_L) : mw_CT l yX1_energy (.code yX1_energy cX1_energy 2 (some .int)) 4 1 6 [.ref 0, .int p] (mw_Y0, I, L) (.inr "java/lang/IllegalArgumentException") := by
  refine mw_enter RX1 rfl (by decide +kernel) (mw_cat rfl) (Nat.le_of_ble_eq_true rfl) (fun X hX hl hE hT hnm => ?_)
  subst hl
  show mw_G X 0 [some (.ref 0), some (.int p)] [] mw_Y0 I L 0 0
  refine mw_iload_n hX dX1_energy_0 rfl rfl ?_
  rcases Classical.em (okR p 0 2) with h1 | h1
  · refine mw_cS hX [_] ws_X1_32 dX1_energy_1 (c_checkPlant (mw_l X) p h1 mw_Y0 I L) rfl (by decide) (by omega) (by omega) (Nat.le_of_ble_eq_true rfl) ?_
    exact absurd h1 h
  · exact mw_cSX hX hE hT [_] ws_X1_32 dX1_energy_1 (c_checkPlantX (mw_l X) p h1 mw_Y0 I L) rfl (by decide) (by omega) (by omega) (Nat.le_of_ble_eq_true rfl) (rfl) (by omega) (by omega)
set_option maxRecDepth 20000 in
theorem c_energy (l : Launch) (i : Nat) (hi : i < 3) (I : mw_I) (L : mw_L) : mw_CT l yX1_energy (.code yX1_energy cX1_energy 2 (some .int)) 4 1 6 [.ref 0, .int (nI i)] (mw_Y0, I, L) (.inl (some (.int (I (7 + 11 * i) 15)), mw_Y0, I, L)) := by
  refine mw_enter RX1 rfl (by decide +kernel) (mw_cat rfl) (Nat.le_of_ble_eq_true rfl) (fun X hX hl hE hT hnm => ?_)
  subst hl
  show mw_G X 0 [some (.ref 0), some (.int (nI i))] [] mw_Y0 I L 0 0
  refine mw_iload_n hX dX1_energy_0 rfl rfl ?_
  refine mw_cS hX [_] ws_X1_32 dX1_energy_1 (c_checkPlant (mw_l X) (nI i) (okR_nI (n := 2) (by decide) hi) mw_Y0 I L) rfl (by decide) (by omega) (by omega) (Nat.le_of_ble_eq_true rfl) ?_
  refine mw_aload_n hX dX1_energy_4 rfl rfl ?_
  refine mw_getR hX (r := 1) dX1_energy_5 (mw_Yl (by decide)) mw_YW fl_X1_11 (by decide) (by decide) rfl rfl ?_
  refine mw_iload_n hX dX1_energy_8 rfl rfl ?_
  refine mw_aaloadP hX (j := i) dX1_energy_9 (mw_Yl (by decide)) rfl rfl (by omega) (by decide) (mw_Yp (by omega)) ?_
  refine mw_getI hX dX1_energy_10 (mw_P0 (i := i) (by omega)).l0 (mw_P0 (i := i) (by omega)).s0 fl_X1_116 (by decide) (by decide) rfl ?_
  exact mw_ireturn hX hE dX1_energy_13 (rfl) (by omega) (by omega)
set_option maxRecDepth 20000 in
theorem c_mixX (l : Launch) (p f : Int32) (h : ¬ (okR p 0 2 ∧ okR f 0 16)) (I : mw_I) (L : mw_L) : mw_CT l yX1_mix (.code yX1_mix cX1_mix 3 (some .int)) 4 2 12 [.ref 0, .int p, .int f] (mw_Y0, I, L) (.inr "java/lang/IllegalArgumentException") := by
  refine mw_enter RX1 rfl (by decide +kernel) (mw_cat rfl) (Nat.le_of_ble_eq_true rfl) (fun X hX hl hE hT hnm => ?_)
  subst hl
  show mw_G X 0 [some (.ref 0), some (.int p), some (.int f)] [] mw_Y0 I L 0 0
  refine mw_iload_n hX dX1_mix_0 rfl rfl ?_
  rcases Classical.em (okR p 0 2) with h1 | h1
  · refine mw_cS hX [_] ws_X1_32 dX1_mix_1 (c_checkPlant (mw_l X) p h1 mw_Y0 I L) rfl (by decide) (by omega) (by omega) (Nat.le_of_ble_eq_true rfl) ?_
    refine mw_iload_n hX dX1_mix_4 rfl rfl ?_
    refine mw_ic hX 0 dX1_mix_5 rfl ?_
    refine mw_bp hX 16 dX1_mix_6 rfl ?_
    rcases Classical.em (okR f 0 16) with h8 | h8
    · refine mw_cS hX [_, _, _] ws_X1_36 dX1_mix_8 (c_checkRange (mw_l X) f 0 16 h8 mw_Y0 I L) rfl (by decide) (by omega) (by omega) (Nat.le_of_ble_eq_true rfl) ?_
      exact absurd ⟨h1, h8⟩ h
    · exact mw_cSX hX hE hT [_, _, _] ws_X1_36 dX1_mix_8 (c_checkRangeX (mw_l X) f 0 16 h8 mw_Y0 I L) rfl (by decide) (by omega) (by omega) (Nat.le_of_ble_eq_true rfl) (rfl) (by omega) (by omega)
  · exact mw_cSX hX hE hT [_] ws_X1_32 dX1_mix_1 (c_checkPlantX (mw_l X) p h1 mw_Y0 I L) rfl (by decide) (by omega) (by omega) (Nat.le_of_ble_eq_true rfl) (rfl) (by omega) (by omega)
set_option maxRecDepth 20000 in
theorem c_mix (l : Launch) (i : Nat) (hi : i < 3) (f : Int32) (hf : okR f 0 16) (I : mw_I) (L : mw_L) : mw_CT l yX1_mix (.code yX1_mix cX1_mix 3 (some .int)) 4 2 12 [.ref 0, .int (nI i), .int f] (mw_Y0, I, L) (.inl (some (.int (mixForV I (7 + 11 * i) f)), mw_Y0, I, L)) := by
  refine mw_enter RX1 rfl (by decide +kernel) (mw_cat rfl) (Nat.le_of_ble_eq_true rfl) (fun X hX hl hE hT hnm => ?_)
  subst hl
  show mw_G X 0 [some (.ref 0), some (.int (nI i)), some (.int f)] [] mw_Y0 I L 0 0
  refine mw_iload_n hX dX1_mix_0 rfl rfl ?_
  refine mw_cS hX [_] ws_X1_32 dX1_mix_1 (c_checkPlant (mw_l X) (nI i) (okR_nI (n := 2) (by decide) hi) mw_Y0 I L) rfl (by decide) (by omega) (by omega) (Nat.le_of_ble_eq_true rfl) ?_
  refine mw_iload_n hX dX1_mix_4 rfl rfl ?_
  refine mw_ic hX 0 dX1_mix_5 rfl ?_
  refine mw_bp hX 16 dX1_mix_6 rfl ?_
  refine mw_cS hX [_, _, _] ws_X1_36 dX1_mix_8 (c_checkRange (mw_l X) f 0 16 hf mw_Y0 I L) rfl (by decide) (by omega) (by omega) (Nat.le_of_ble_eq_true rfl) ?_
  refine mw_aload_n hX dX1_mix_11 rfl rfl ?_
  refine mw_getR hX (r := 1) dX1_mix_12 (mw_Yl (by decide)) mw_YW fl_X1_11 (by decide) (by decide) rfl rfl ?_
  refine mw_iload_n hX dX1_mix_15 rfl rfl ?_
  refine mw_aaloadP hX (j := i) dX1_mix_16 (mw_Yl (by decide)) rfl rfl (by omega) (by decide) (mw_Yp (by omega)) ?_
  refine mw_iload_n hX dX1_mix_17 rfl rfl ?_
  refine mw_cV hX [_] ws_X1_119 dX1_mix_18 (c_mixFor (mw_l X) mw_Y0 _ (mw_P0 hi) f I L) (mw_P0 (i := i) (by omega)).l0 (mw_P0 (i := i) (by omega)).s0 (by decide) rfl (by decide) (by omega) (by omega) (Nat.le_of_ble_eq_true rfl) ?_
  exact mw_ireturn hX hE dX1_mix_21 (rfl) (by omega) (by omega)
