/-! pool; what is refused (by program: wip/p26/gen60.py) -/
set_option maxRecDepth 20000 in
theorem l_pool (l : Launch) (i : Nat) (hi : i < 3) (z q f en : Int32) (I : mw_I) (L : mw_L) (h : I ((7 + 11 * i) + 2) 0 = z ∧ I ((7 + 11 * i) + 2) 1 = q ∧ waterV I (7 + 11 * i) = z + q ∧ I (7 + 11 * i) 14 = f ∧ I (7 + 11 * i) 15 = en) : mw_CT l yL_pool (.code yL_pool cL_pool 6 (some .boolean)) 5 7 42 [.ref 0, .int (nI i), .int z, .int q, .int f, .int en] (mw_Y0, I, L) (.inl (some (.int (nI 1)), mw_Y0, I, L)) := by
  obtain ⟨h0, h1, h2, h3, h4⟩ := h
  refine mw_enter RL rfl (by decide +kernel) (mw_cat rfl) (Nat.le_of_ble_eq_true rfl) (fun X hX hl hE hT hnm => ?_)
  subst hl
  show mw_G X 0 [some (.ref 0), some (.int (nI i)), some (.int z), some (.int q), some (.int f), some (.int en)] [] mw_Y0 I L 0 0
  refine mw_aload_n hX dL_pool_0 rfl rfl ?_
  refine mw_iload_n hX dL_pool_1 rfl rfl ?_
  refine mw_ic hX (nI 0) dL_pool_2 rfl ?_
  refine mw_cV hX [_, _] ws_L_37 dL_pool_3 (c_account (mw_l X) i hi 0 (by decide) I L) (mw_Yl (by decide)) mw_YW (by decide) rfl (by decide) (by omega) (by omega) (Nat.le_of_ble_eq_true rfl) ?_
  refine mw_top h0 ?_
  refine mw_iload_n hX dL_pool_6 rfl rfl ?_
  refine mw_icmp_ne hX (tgt := 55) dL_pool_7 (by decide) (fun h => absurd rfl h) (fun _ => ?_)
  refine mw_aload_n hX dL_pool_10 rfl rfl ?_
  refine mw_iload_n hX dL_pool_11 rfl rfl ?_
  refine mw_ic hX (nI 1) dL_pool_12 rfl ?_
  refine mw_cV hX [_, _] ws_L_37 dL_pool_13 (c_account (mw_l X) i hi 1 (by decide) I L) (mw_Yl (by decide)) mw_YW (by decide) rfl (by decide) (by omega) (by omega) (Nat.le_of_ble_eq_true rfl) ?_
  refine mw_top h1 ?_
  refine mw_iload_n hX dL_pool_16 rfl rfl ?_
  refine mw_icmp_ne hX (tgt := 55) dL_pool_17 (by decide) (fun h => absurd rfl h) (fun _ => ?_)
  refine mw_aload_n hX dL_pool_20 rfl rfl ?_
  refine mw_iload_n hX dL_pool_21 rfl rfl ?_
  refine mw_cV hX [_] ws_L_40 dL_pool_22 (c_level (mw_l X) i hi I L) (mw_Yl (by decide)) mw_YW (by decide) rfl (by decide) (by omega) (by omega) (Nat.le_of_ble_eq_true rfl) ?_
  refine mw_top h2 ?_
  refine mw_iload_n hX dL_pool_25 rfl rfl ?_
  refine mw_iload_n hX dL_pool_26 rfl rfl ?_
  refine mw_iadd hX dL_pool_27 ?_
  refine mw_icmp_ne hX (tgt := 55) dL_pool_28 (by decide) (fun h => absurd rfl h) (fun _ => ?_)
  refine mw_aload_n hX dL_pool_31 rfl rfl ?_
  refine mw_iload_n hX dL_pool_32 rfl rfl ?_
  refine mw_cV hX [_] ws_L_64 dL_pool_33 (c_flow (mw_l X) i hi I L) (mw_Yl (by decide)) mw_YW (by decide) rfl (by decide) (by omega) (by omega) (Nat.le_of_ble_eq_true rfl) ?_
  refine mw_top h3 ?_
  refine mw_iload hX dL_pool_36 rfl ?_
  refine mw_icmp_ne hX (tgt := 55) dL_pool_38 (by decide) (fun h => absurd rfl h) (fun _ => ?_)
  refine mw_aload_n hX dL_pool_41 rfl rfl ?_
  refine mw_iload_n hX dL_pool_42 rfl rfl ?_
  refine mw_cV hX [_] ws_L_67 dL_pool_43 (c_energy (mw_l X) i hi I L) (mw_Yl (by decide)) mw_YW (by decide) rfl (by decide) (by omega) (by omega) (Nat.le_of_ble_eq_true rfl) ?_
  refine mw_top h4 ?_
  refine mw_iload hX dL_pool_46 rfl ?_
  refine mw_icmp_ne hX (tgt := 55) dL_pool_48 (by decide) (fun h => absurd rfl h) (fun _ => ?_)
  refine mw_ic hX (nI 1) dL_pool_51 rfl ?_
  refine mw_goto hX (tgt := 56) dL_pool_52 (by decide) ?_
  exact mw_zreturn hX hE dL_pool_56 rfl (Or.inr rfl) (by omega) (by omega)
