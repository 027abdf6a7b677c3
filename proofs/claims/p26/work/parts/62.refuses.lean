set_option maxRecDepth 20000 in
theorem l_refuses (l : Launch) (I : mw_I) (L : mw_L) : mw_CT l yL_refuses (.code yL_refuses cL_refuses 14 (some .boolean)) 14 700 4300 [.ref 0] (mw_Y0, I, L) (.inl (some (.int (nI 1)), mw_Y0, I, L)) := by
  refine mw_enter RL rfl (by decide +kernel) (mw_cat rfl) (Nat.le_of_ble_eq_true rfl) (fun X hX hl hE hT hnm => ?_)
  subst hl
  show mw_G X 0 [some (.ref 0), none, none, none, none, none, none, none, none, none, none, none, none, none] [] mw_Y0 I L 0 0
  refine mw_aload_n hX dL_refuses_0 rfl rfl ?_
  refine mw_cV hX [] ws_L_84 dL_refuses_1 (c_hour (mw_l X) I L) (mw_Yl (by decide)) mw_YW (by decide) rfl (by decide) (Nat.le_of_ble_eq_true rfl) (Nat.le_of_ble_eq_true rfl) (Nat.le_of_ble_eq_true rfl) ?_
  refine mw_istore_n hX dL_refuses_4 rfl (Nat.le_of_ble_eq_true rfl) ?_
  dsimp only [List.set]
  refine mw_aload_n hX dL_refuses_5 rfl rfl ?_
  refine mw_ic hX (nI 0) dL_refuses_6 rfl ?_
  refine mw_cV hX [_] ws_L_40 dL_refuses_7 (c_level (mw_l X) 0 (by decide) I L) (mw_Yl (by decide)) mw_YW (by decide) rfl (by decide) (Nat.le_of_ble_eq_true rfl) (Nat.le_of_ble_eq_true rfl) (Nat.le_of_ble_eq_true rfl) ?_
  refine mw_le (n' := 1) (k' := 6) (Nat.le_of_ble_eq_true rfl) (Nat.le_of_ble_eq_true rfl) ?_
  refine mw_istore_n hX dL_refuses_10 rfl (Nat.le_of_ble_eq_true rfl) ?_
  dsimp only [List.set]
  refine mw_aload_n hX dL_refuses_11 rfl rfl ?_
  refine mw_ic hX (nI 0) dL_refuses_12 rfl ?_
  refine mw_cV hX [_] ws_L_67 dL_refuses_13 (c_energy (mw_l X) 0 (by decide) I L) (mw_Yl (by decide)) mw_YW (by decide) rfl (by decide) (Nat.le_of_ble_eq_true rfl) (Nat.le_of_ble_eq_true rfl) (Nat.le_of_ble_eq_true rfl) ?_
  refine mw_le (n' := 2) (k' := 12) (Nat.le_of_ble_eq_true rfl) (Nat.le_of_ble_eq_true rfl) ?_
  refine mw_istore_n hX dL_refuses_16 rfl (Nat.le_of_ble_eq_true rfl) ?_
  dsimp only [List.set]
  refine mw_sp hX (-8002) dL_refuses_17 rfl ?_
  refine mw_istore hX dL_refuses_20 (Nat.le_of_ble_eq_true rfl) ?_
  dsimp only [List.set]
  refine mw_ldc hX (v := (2147483647)) dL_refuses_22 wl_88 ?_
  refine mw_istore hX dL_refuses_24 (Nat.le_of_ble_eq_true rfl) ?_
  dsimp only [List.set]
  refine mw_ic hX (nI 0) dL_refuses_26 rfl ?_
  refine mw_istore hX dL_refuses_27 (Nat.le_of_ble_eq_true rfl) ?_
  dsimp only [List.set]
  refine rf_0 hX ?_
  refine rf_1 hX ?_
  refine rf_2 hX ?_
  refine rf_3 hX ?_
  refine mw_iload hX dL_refuses_29 rfl ?_
  refine mw_ic hX (nI 4) dL_refuses_31 rfl ?_
  refine mw_icmp_ge hX (tgt := 908) dL_refuses_32 (by decide) (fun _ => ?_) (fun h => absurd h (by decide))
  refine mw_aload_n hX dL_refuses_908 rfl rfl ?_
  refine mw_cV hX [] ws_L_84 dL_refuses_909 (c_hour (mw_l X) I L) (mw_Yl (by decide)) mw_YW (by decide) rfl (by decide) (Nat.le_of_ble_eq_true rfl) (Nat.le_of_ble_eq_true rfl) (Nat.le_of_ble_eq_true rfl) ?_
  refine mw_iload_n hX dL_refuses_912 rfl rfl ?_
  refine mw_icmp_ne hX (tgt := 938) dL_refuses_913 (by decide) (fun h => absurd rfl h) (fun _ => ?_)
  refine mw_aload_n hX dL_refuses_916 rfl rfl ?_
  refine mw_ic hX (nI 0) dL_refuses_917 rfl ?_
  refine mw_cV hX [_] ws_L_40 dL_refuses_918 (c_level (mw_l X) 0 (by decide) I L) (mw_Yl (by decide)) mw_YW (by decide) rfl (by decide) (Nat.le_of_ble_eq_true rfl) (Nat.le_of_ble_eq_true rfl) (Nat.le_of_ble_eq_true rfl) ?_
  refine mw_le (n' := 643) (k' := 3858) (Nat.le_of_ble_eq_true rfl) (Nat.le_of_ble_eq_true rfl) ?_
  refine mw_iload_n hX dL_refuses_921 rfl rfl ?_
  refine mw_icmp_ne hX (tgt := 938) dL_refuses_922 (by decide) (fun h => absurd rfl h) (fun _ => ?_)
  refine mw_aload_n hX dL_refuses_925 rfl rfl ?_
  refine mw_ic hX (nI 0) dL_refuses_926 rfl ?_
  refine mw_cV hX [_] ws_L_67 dL_refuses_927 (c_energy (mw_l X) 0 (by decide) I L) (mw_Yl (by decide)) mw_YW (by decide) rfl (by decide) (Nat.le_of_ble_eq_true rfl) (Nat.le_of_ble_eq_true rfl) (Nat.le_of_ble_eq_true rfl) ?_
  refine mw_le (n' := 644) (k' := 3864) (Nat.le_of_ble_eq_true rfl) (Nat.le_of_ble_eq_true rfl) ?_
  refine mw_iload_n hX dL_refuses_930 rfl rfl ?_
  refine mw_icmp_ne hX (tgt := 938) dL_refuses_931 (by decide) (fun h => absurd rfl h) (fun _ => ?_)
  refine mw_ic hX (nI 1) dL_refuses_934 rfl ?_
  refine mw_goto hX (tgt := 939) dL_refuses_935 (by decide) ?_
  exact mw_zreturn hX hE dL_refuses_939 rfl (Or.inr rfl) (Nat.le_of_ble_eq_true rfl) (Nat.le_of_ble_eq_true rfl)
