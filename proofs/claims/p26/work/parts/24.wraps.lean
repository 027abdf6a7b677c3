/-! the law's wrappers: pond, and act by its number; -8002 and -8003 where an exception comes (by program: wip/p26/gen24.py) -/
set_option maxRecDepth 20000 in
theorem w_pond (l : Launch) (v1 v2 v3 v4 : Int32) (d0 mc ms : Nat) (hd : d0 < 13) (hmc : mc ≤ 4) (hms : ms ≤ 24) {I : mw_I} {L : mw_L} {J : mw_I} (hc : mw_CT l yX1_setPond (.code yX1_setPond cX1_setPond 6 none) d0 mc ms [.ref 0, .int v1, .int v2, .int v3, .int v4] (mw_Y0, I, L) (.inl (none, mw_Y0, J, L))) : mw_CT l yL_pond (.codeWith yL_pond cL_pond 6 (some .int) [(0, 10, 11, 13)]) 13 4 24 [.ref 0, .int v1, .int v2, .int v3, .int v4] (mw_Y0, I, L) (.inl (some (.int (nI 0)), mw_Y0, J, L)) := by
  refine mw_enterH RL rfl (by decide +kernel) (mw_cat rfl) (Nat.le_of_ble_eq_true rfl) (fun X hX hl hE hT => ?_)
  subst hl
  show mw_G X 0 [some (.ref 0), some (.int v1), some (.int v2), some (.int v3), some (.int v4), none] [] mw_Y0 I L 0 0
  refine mw_aload_n hX dL_pond_0 rfl rfl ?_
  refine mw_iload_n hX dL_pond_1 rfl rfl ?_
  refine mw_iload_n hX dL_pond_2 rfl rfl ?_
  refine mw_iload_n hX dL_pond_3 rfl rfl ?_
  refine mw_iload hX dL_pond_4 rfl ?_
  refine mw_cV hX [_, _, _, _] ws_L_7 dL_pond_6 hc (mw_Yl (by decide)) mw_YW (by decide) rfl (by omega) (by omega) (by omega) (Nat.le_of_ble_eq_true rfl) ?_
  refine mw_ic hX (nI 0) dL_pond_9 rfl ?_
  exact mw_ireturn hX hE dL_pond_10 rfl (by omega) (by omega)
set_option maxRecDepth 20000 in
theorem w_pondX (l : Launch) (v1 v2 v3 v4 : Int32) (d0 mc ms : Nat) (hd : d0 < 13) (hmc : mc ≤ 4) (hms : ms ≤ 24) {I : mw_I} {L : mw_L} (hc : mw_CT l yX1_setPond (.code yX1_setPond cX1_setPond 6 none) d0 mc ms [.ref 0, .int v1, .int v2, .int v3, .int v4] (mw_Y0, I, L) (.inr "java/lang/IllegalArgumentException")) : mw_CT l yL_pond (.codeWith yL_pond cL_pond 6 (some .int) [(0, 10, 11, 13)]) 13 4 24 [.ref 0, .int v1, .int v2, .int v3, .int v4] (mw_Y0, I, L) (.inl (some (.int (-8002)), mw_Y0, I, L)) := by
  refine mw_enterH RL rfl (by decide +kernel) (mw_cat rfl) (Nat.le_of_ble_eq_true rfl) (fun X hX hl hE hT => ?_)
  subst hl
  show mw_G X 0 [some (.ref 0), some (.int v1), some (.int v2), some (.int v3), some (.int v4), none] [] mw_Y0 I L 0 0
  refine mw_aload_n hX dL_pond_0 rfl rfl ?_
  refine mw_iload_n hX dL_pond_1 rfl rfl ?_
  refine mw_iload_n hX dL_pond_2 rfl rfl ?_
  refine mw_iload_n hX dL_pond_3 rfl rfl ?_
  refine mw_iload hX dL_pond_4 rfl ?_
  refine mw_cVC hX [_, _, _, _] ws_L_7 dL_pond_6 hc (mw_Yl (by decide)) mw_YW (by decide) rfl (by omega) (by omega) (by omega) (Nat.le_of_ble_eq_true rfl) [] ((tableOf [(0, 10, 11, 13)]).head (by decide)) [] (hT.trans rfl) (fun _ h => absurd h List.not_mem_nil) (by decide) (by decide) wk_13 (Or.inl rfl) (hp2 := 11) (i := 5) (wd := 2) rfl (Nat.le_of_ble_eq_true rfl) (Or.inr ⟨dL_pond_11, rfl⟩) ?_
  dsimp only [List.set]
  refine mw_sp hX (-8002) dL_pond_13 rfl ?_
  exact mw_ireturn hX hE dL_pond_16 rfl (by omega) (by omega)
set_option maxRecDepth 20000 in
theorem w_setInflowX (l : Launch) (v1 v2 v3 v4 : Int32) (d0 mc ms : Nat) (hd : d0 < 13) (hmc : mc ≤ 4) (hms : ms ≤ 24) {I : mw_I} {L : mw_L} (hc : mw_CT l yX1_setInflow (.code yX1_setInflow cX1_setInflow 5 (some .int)) d0 mc ms [.ref 0, .int v1, .int v2, .int v3] (mw_Y0, I, L) (.inr "java/lang/IllegalArgumentException")) : mw_CT l yL_act (.codeWith yL_act cL_act 7 (some .int) [(0, 299, 300, 13), (0, 299, 306, 82)]) 13 4 24 [.ref 0, .int (nI 0), .int v1, .int v2, .int v3, .int v4] (mw_Y0, I, L) (.inl (some (.int (-8002)), mw_Y0, I, L)) := by
  refine mw_enterH RL rfl (by decide +kernel) (mw_cat rfl) (Nat.le_of_ble_eq_true rfl) (fun X hX hl hE hT => ?_)
  subst hl
  show mw_G X 0 [some (.ref 0), some (.int (nI 0)), some (.int v1), some (.int v2), some (.int v3), some (.int v4), none] [] mw_Y0 I L 0 0
  refine mw_iload_n hX dL_act_0 rfl rfl ?_
  refine mw_if_ne hX (tgt := 15) dL_act_1 (by decide) (fun h => absurd h (by decide)) (fun _ => ?_)
  refine mw_aload_n hX dL_act_4 rfl rfl ?_
  refine mw_iload_n hX dL_act_5 rfl rfl ?_
  refine mw_iload_n hX dL_act_6 rfl rfl ?_
  refine mw_iload hX dL_act_7 rfl ?_
  refine mw_cVC hX [_, _, _] ws_L_15 dL_act_9 hc (mw_Yl (by decide)) mw_YW (by decide) rfl (by omega) (by omega) (by omega) (Nat.le_of_ble_eq_true rfl) [] ((tableOf [(0, 299, 300, 13)]).head (by decide)) (tableOf [(0, 299, 306, 82)]) (hT.trans rfl) (fun _ h => absurd h List.not_mem_nil) (by decide) (by decide) wk_13 (Or.inl rfl) (hp2 := 300) (i := 6) (wd := 2) rfl (Nat.le_of_ble_eq_true rfl) (Or.inr ⟨dL_act_300, rfl⟩) ?_
  dsimp only [List.set]
  refine mw_sp hX (-8002) dL_act_302 rfl ?_
  exact mw_ireturn hX hE dL_act_305 rfl (by omega) (by omega)
set_option maxRecDepth 20000 in
theorem w_setMinimumX (l : Launch) (v1 v2 v3 v4 : Int32) (d0 mc ms : Nat) (hd : d0 < 13) (hmc : mc ≤ 4) (hms : ms ≤ 24) {I : mw_I} {L : mw_L} (hc : mw_CT l yX1_setMinimum (.code yX1_setMinimum cX1_setMinimum 4 (some .int)) d0 mc ms [.ref 0, .int v1, .int v2] (mw_Y0, I, L) (.inr "java/lang/IllegalArgumentException")) : mw_CT l yL_act (.codeWith yL_act cL_act 7 (some .int) [(0, 299, 300, 13), (0, 299, 306, 82)]) 13 4 24 [.ref 0, .int (nI 1), .int v1, .int v2, .int v3, .int v4] (mw_Y0, I, L) (.inl (some (.int (-8002)), mw_Y0, I, L)) := by
  refine mw_enterH RL rfl (by decide +kernel) (mw_cat rfl) (Nat.le_of_ble_eq_true rfl) (fun X hX hl hE hT => ?_)
  subst hl
  show mw_G X 0 [some (.ref 0), some (.int (nI 1)), some (.int v1), some (.int v2), some (.int v3), some (.int v4), none] [] mw_Y0 I L 0 0
  refine mw_iload_n hX dL_act_0 rfl rfl ?_
  refine mw_if_ne hX (tgt := 15) dL_act_1 (by decide) (fun _ => ?_) (fun h => absurd h (by decide))
  refine mw_iload_n hX dL_act_15 rfl rfl ?_
  refine mw_ic hX (nI 1) dL_act_16 rfl ?_
  refine mw_icmp_ne hX (tgt := 29) dL_act_17 (by decide) (fun h => absurd h (by decide)) (fun _ => ?_)
  refine mw_aload_n hX dL_act_20 rfl rfl ?_
  refine mw_iload_n hX dL_act_21 rfl rfl ?_
  refine mw_iload_n hX dL_act_22 rfl rfl ?_
  refine mw_cVC hX [_, _] ws_L_19 dL_act_23 hc (mw_Yl (by decide)) mw_YW (by decide) rfl (by omega) (by omega) (by omega) (Nat.le_of_ble_eq_true rfl) [] ((tableOf [(0, 299, 300, 13)]).head (by decide)) (tableOf [(0, 299, 306, 82)]) (hT.trans rfl) (fun _ h => absurd h List.not_mem_nil) (by decide) (by decide) wk_13 (Or.inl rfl) (hp2 := 300) (i := 6) (wd := 2) rfl (Nat.le_of_ble_eq_true rfl) (Or.inr ⟨dL_act_300, rfl⟩) ?_
  dsimp only [List.set]
  refine mw_sp hX (-8002) dL_act_302 rfl ?_
  exact mw_ireturn hX hE dL_act_305 rfl (by omega) (by omega)
set_option maxRecDepth 20000 in
theorem w_orderX (l : Launch) (v1 v2 v3 v4 : Int32) (d0 mc ms : Nat) (hd : d0 < 13) (hmc : mc ≤ 4) (hms : ms ≤ 24) {I : mw_I} {L : mw_L} (hc : mw_CT l yX1_order (.code yX1_order cX1_order 5 (some .int)) d0 mc ms [.ref 0, .int v1, .int v2, .int v3] (mw_Y0, I, L) (.inr "java/lang/IllegalArgumentException")) : mw_CT l yL_act (.codeWith yL_act cL_act 7 (some .int) [(0, 299, 300, 13), (0, 299, 306, 82)]) 13 4 24 [.ref 0, .int (nI 2), .int v1, .int v2, .int v3, .int v4] (mw_Y0, I, L) (.inl (some (.int (-8002)), mw_Y0, I, L)) := by
  refine mw_enterH RL rfl (by decide +kernel) (mw_cat rfl) (Nat.le_of_ble_eq_true rfl) (fun X hX hl hE hT => ?_)
  subst hl
  show mw_G X 0 [some (.ref 0), some (.int (nI 2)), some (.int v1), some (.int v2), some (.int v3), some (.int v4), none] [] mw_Y0 I L 0 0
  refine mw_iload_n hX dL_act_0 rfl rfl ?_
  refine mw_if_ne hX (tgt := 15) dL_act_1 (by decide) (fun _ => ?_) (fun h => absurd h (by decide))
  refine mw_iload_n hX dL_act_15 rfl rfl ?_
  refine mw_ic hX (nI 1) dL_act_16 rfl ?_
  refine mw_icmp_ne hX (tgt := 29) dL_act_17 (by decide) (fun _ => ?_) (fun h => absurd h (by decide))
  refine mw_iload_n hX dL_act_29 rfl rfl ?_
  refine mw_ic hX (nI 2) dL_act_30 rfl ?_
  refine mw_icmp_ne hX (tgt := 45) dL_act_31 (by decide) (fun h => absurd h (by decide)) (fun _ => ?_)
  refine mw_aload_n hX dL_act_34 rfl rfl ?_
  refine mw_iload_n hX dL_act_35 rfl rfl ?_
  refine mw_iload_n hX dL_act_36 rfl rfl ?_
  refine mw_iload hX dL_act_37 rfl ?_
  refine mw_cVC hX [_, _, _] ws_L_23 dL_act_39 hc (mw_Yl (by decide)) mw_YW (by decide) rfl (by omega) (by omega) (by omega) (Nat.le_of_ble_eq_true rfl) [] ((tableOf [(0, 299, 300, 13)]).head (by decide)) (tableOf [(0, 299, 306, 82)]) (hT.trans rfl) (fun _ h => absurd h List.not_mem_nil) (by decide) (by decide) wk_13 (Or.inl rfl) (hp2 := 300) (i := 6) (wd := 2) rfl (Nat.le_of_ble_eq_true rfl) (Or.inr ⟨dL_act_300, rfl⟩) ?_
  dsimp only [List.set]
  refine mw_sp hX (-8002) dL_act_302 rfl ?_
  exact mw_ireturn hX hE dL_act_305 rfl (by omega) (by omega)
set_option maxRecDepth 20000 in
theorem w_setYieldX (l : Launch) (v1 v2 v3 v4 : Int32) (d0 mc ms : Nat) (hd : d0 < 13) (hmc : mc ≤ 4) (hms : ms ≤ 24) {I : mw_I} {L : mw_L} (hc : mw_CT l yX1_setYield (.code yX1_setYield cX1_setYield 6 (some .int)) d0 mc ms [.ref 0, .int v1, .int v2, .int v3, .int v4] (mw_Y0, I, L) (.inr "java/lang/IllegalArgumentException")) : mw_CT l yL_act (.codeWith yL_act cL_act 7 (some .int) [(0, 299, 300, 13), (0, 299, 306, 82)]) 13 4 24 [.ref 0, .int (nI 3), .int v1, .int v2, .int v3, .int v4] (mw_Y0, I, L) (.inl (some (.int (-8002)), mw_Y0, I, L)) := by
  refine mw_enterH RL rfl (by decide +kernel) (mw_cat rfl) (Nat.le_of_ble_eq_true rfl) (fun X hX hl hE hT => ?_)
  subst hl
  show mw_G X 0 [some (.ref 0), some (.int (nI 3)), some (.int v1), some (.int v2), some (.int v3), some (.int v4), none] [] mw_Y0 I L 0 0
  refine mw_iload_n hX dL_act_0 rfl rfl ?_
  refine mw_if_ne hX (tgt := 15) dL_act_1 (by decide) (fun _ => ?_) (fun h => absurd h (by decide))
  refine mw_iload_n hX dL_act_15 rfl rfl ?_
  refine mw_ic hX (nI 1) dL_act_16 rfl ?_
  refine mw_icmp_ne hX (tgt := 29) dL_act_17 (by decide) (fun _ => ?_) (fun h => absurd h (by decide))
  refine mw_iload_n hX dL_act_29 rfl rfl ?_
  refine mw_ic hX (nI 2) dL_act_30 rfl ?_
  refine mw_icmp_ne hX (tgt := 45) dL_act_31 (by decide) (fun _ => ?_) (fun h => absurd h (by decide))
  refine mw_iload_n hX dL_act_45 rfl rfl ?_
  refine mw_ic hX (nI 3) dL_act_46 rfl ?_
  refine mw_icmp_ne hX (tgt := 63) dL_act_47 (by decide) (fun h => absurd h (by decide)) (fun _ => ?_)
  refine mw_aload_n hX dL_act_50 rfl rfl ?_
  refine mw_iload_n hX dL_act_51 rfl rfl ?_
  refine mw_iload_n hX dL_act_52 rfl rfl ?_
  refine mw_iload hX dL_act_53 rfl ?_
  refine mw_iload hX dL_act_55 rfl ?_
  refine mw_cVC hX [_, _, _, _] ws_L_26 dL_act_57 hc (mw_Yl (by decide)) mw_YW (by decide) rfl (by omega) (by omega) (by omega) (Nat.le_of_ble_eq_true rfl) [] ((tableOf [(0, 299, 300, 13)]).head (by decide)) (tableOf [(0, 299, 306, 82)]) (hT.trans rfl) (fun _ h => absurd h List.not_mem_nil) (by decide) (by decide) wk_13 (Or.inl rfl) (hp2 := 300) (i := 6) (wd := 2) rfl (Nat.le_of_ble_eq_true rfl) (Or.inr ⟨dL_act_300, rfl⟩) ?_
  dsimp only [List.set]
  refine mw_sp hX (-8002) dL_act_302 rfl ?_
  exact mw_ireturn hX hE dL_act_305 rfl (by omega) (by omega)
set_option maxRecDepth 20000 in
theorem w_runX (l : Launch) (v1 v2 v3 v4 : Int32) (d0 mc ms : Nat) (hd : d0 < 13) (hmc : mc ≤ 4) (hms : ms ≤ 24) {I : mw_I} {L : mw_L} (hc : mw_CT l yX1_run (.code yX1_run cX1_run 4 (some .int)) d0 mc ms [.ref 0, .int v1] (mw_Y0, I, L) (.inr "java/lang/IllegalArgumentException")) : mw_CT l yL_act (.codeWith yL_act cL_act 7 (some .int) [(0, 299, 300, 13), (0, 299, 306, 82)]) 13 4 24 [.ref 0, .int (nI 4), .int v1, .int v2, .int v3, .int v4] (mw_Y0, I, L) (.inl (some (.int (-8002)), mw_Y0, I, L)) := by
  refine mw_enterH RL rfl (by decide +kernel) (mw_cat rfl) (Nat.le_of_ble_eq_true rfl) (fun X hX hl hE hT => ?_)
  subst hl
  show mw_G X 0 [some (.ref 0), some (.int (nI 4)), some (.int v1), some (.int v2), some (.int v3), some (.int v4), none] [] mw_Y0 I L 0 0
  refine mw_iload_n hX dL_act_0 rfl rfl ?_
  refine mw_if_ne hX (tgt := 15) dL_act_1 (by decide) (fun _ => ?_) (fun h => absurd h (by decide))
  refine mw_iload_n hX dL_act_15 rfl rfl ?_
  refine mw_ic hX (nI 1) dL_act_16 rfl ?_
  refine mw_icmp_ne hX (tgt := 29) dL_act_17 (by decide) (fun _ => ?_) (fun h => absurd h (by decide))
  refine mw_iload_n hX dL_act_29 rfl rfl ?_
  refine mw_ic hX (nI 2) dL_act_30 rfl ?_
  refine mw_icmp_ne hX (tgt := 45) dL_act_31 (by decide) (fun _ => ?_) (fun h => absurd h (by decide))
  refine mw_iload_n hX dL_act_45 rfl rfl ?_
  refine mw_ic hX (nI 3) dL_act_46 rfl ?_
  refine mw_icmp_ne hX (tgt := 63) dL_act_47 (by decide) (fun _ => ?_) (fun h => absurd h (by decide))
  refine mw_iload_n hX dL_act_63 rfl rfl ?_
  refine mw_ic hX (nI 4) dL_act_64 rfl ?_
  refine mw_icmp_ne hX (tgt := 76) dL_act_65 (by decide) (fun h => absurd h (by decide)) (fun _ => ?_)
  refine mw_aload_n hX dL_act_68 rfl rfl ?_
  refine mw_iload_n hX dL_act_69 rfl rfl ?_
  refine mw_cVC hX [_] ws_L_30 dL_act_70 hc (mw_Yl (by decide)) mw_YW (by decide) rfl (by omega) (by omega) (by omega) (Nat.le_of_ble_eq_true rfl) [] ((tableOf [(0, 299, 300, 13)]).head (by decide)) (tableOf [(0, 299, 306, 82)]) (hT.trans rfl) (fun _ h => absurd h List.not_mem_nil) (by decide) (by decide) wk_13 (Or.inl rfl) (hp2 := 300) (i := 6) (wd := 2) rfl (Nat.le_of_ble_eq_true rfl) (Or.inr ⟨dL_act_300, rfl⟩) ?_
  dsimp only [List.set]
  refine mw_sp hX (-8002) dL_act_302 rfl ?_
  exact mw_ireturn hX hE dL_act_305 rfl (by omega) (by omega)
set_option maxRecDepth 20000 in
theorem w_lendX (l : Launch) (v1 v2 v3 v4 : Int32) (d0 mc ms : Nat) (hd : d0 < 13) (hmc : mc ≤ 4) (hms : ms ≤ 24) {I : mw_I} {L : mw_L} (hc : mw_CT l yX1_lend (.code yX1_lend cX1_lend 6 (some .int)) d0 mc ms [.ref 0, .int v1, .int v2, .int v3] (mw_Y0, I, L) (.inr "java/lang/IllegalArgumentException")) : mw_CT l yL_act (.codeWith yL_act cL_act 7 (some .int) [(0, 299, 300, 13), (0, 299, 306, 82)]) 13 4 24 [.ref 0, .int (nI 5), .int v1, .int v2, .int v3, .int v4] (mw_Y0, I, L) (.inl (some (.int (-8002)), mw_Y0, I, L)) := by
  refine mw_enterH RL rfl (by decide +kernel) (mw_cat rfl) (Nat.le_of_ble_eq_true rfl) (fun X hX hl hE hT => ?_)
  subst hl
  show mw_G X 0 [some (.ref 0), some (.int (nI 5)), some (.int v1), some (.int v2), some (.int v3), some (.int v4), none] [] mw_Y0 I L 0 0
  refine mw_iload_n hX dL_act_0 rfl rfl ?_
  refine mw_if_ne hX (tgt := 15) dL_act_1 (by decide) (fun _ => ?_) (fun h => absurd h (by decide))
  refine mw_iload_n hX dL_act_15 rfl rfl ?_
  refine mw_ic hX (nI 1) dL_act_16 rfl ?_
  refine mw_icmp_ne hX (tgt := 29) dL_act_17 (by decide) (fun _ => ?_) (fun h => absurd h (by decide))
  refine mw_iload_n hX dL_act_29 rfl rfl ?_
  refine mw_ic hX (nI 2) dL_act_30 rfl ?_
  refine mw_icmp_ne hX (tgt := 45) dL_act_31 (by decide) (fun _ => ?_) (fun h => absurd h (by decide))
  refine mw_iload_n hX dL_act_45 rfl rfl ?_
  refine mw_ic hX (nI 3) dL_act_46 rfl ?_
  refine mw_icmp_ne hX (tgt := 63) dL_act_47 (by decide) (fun _ => ?_) (fun h => absurd h (by decide))
  refine mw_iload_n hX dL_act_63 rfl rfl ?_
  refine mw_ic hX (nI 4) dL_act_64 rfl ?_
  refine mw_icmp_ne hX (tgt := 76) dL_act_65 (by decide) (fun _ => ?_) (fun h => absurd h (by decide))
  refine mw_iload_n hX dL_act_76 rfl rfl ?_
  refine mw_ic hX (nI 5) dL_act_77 rfl ?_
  refine mw_icmp_ne hX (tgt := 92) dL_act_78 (by decide) (fun h => absurd h (by decide)) (fun _ => ?_)
  refine mw_aload_n hX dL_act_81 rfl rfl ?_
  refine mw_iload_n hX dL_act_82 rfl rfl ?_
  refine mw_iload_n hX dL_act_83 rfl rfl ?_
  refine mw_iload hX dL_act_84 rfl ?_
  refine mw_cVC hX [_, _, _] ws_L_34 dL_act_86 hc (mw_Yl (by decide)) mw_YW (by decide) rfl (by omega) (by omega) (by omega) (Nat.le_of_ble_eq_true rfl) [] ((tableOf [(0, 299, 300, 13)]).head (by decide)) (tableOf [(0, 299, 306, 82)]) (hT.trans rfl) (fun _ h => absurd h List.not_mem_nil) (by decide) (by decide) wk_13 (Or.inl rfl) (hp2 := 300) (i := 6) (wd := 2) rfl (Nat.le_of_ble_eq_true rfl) (Or.inr ⟨dL_act_300, rfl⟩) ?_
  dsimp only [List.set]
  refine mw_sp hX (-8002) dL_act_302 rfl ?_
  exact mw_ireturn hX hE dL_act_305 rfl (by omega) (by omega)
set_option maxRecDepth 20000 in
theorem w_accountX (l : Launch) (v1 v2 v3 v4 : Int32) (d0 mc ms : Nat) (hd : d0 < 13) (hmc : mc ≤ 4) (hms : ms ≤ 24) {I : mw_I} {L : mw_L} (hc : mw_CT l yX1_account (.code yX1_account cX1_account 3 (some .int)) d0 mc ms [.ref 0, .int v1, .int v2] (mw_Y0, I, L) (.inr "java/lang/IllegalArgumentException")) : mw_CT l yL_act (.codeWith yL_act cL_act 7 (some .int) [(0, 299, 300, 13), (0, 299, 306, 82)]) 13 4 24 [.ref 0, .int (nI 6), .int v1, .int v2, .int v3, .int v4] (mw_Y0, I, L) (.inl (some (.int (-8002)), mw_Y0, I, L)) := by
  refine mw_enterH RL rfl (by decide +kernel) (mw_cat rfl) (Nat.le_of_ble_eq_true rfl) (fun X hX hl hE hT => ?_)
  subst hl
  show mw_G X 0 [some (.ref 0), some (.int (nI 6)), some (.int v1), some (.int v2), some (.int v3), some (.int v4), none] [] mw_Y0 I L 0 0
  refine mw_iload_n hX dL_act_0 rfl rfl ?_
  refine mw_if_ne hX (tgt := 15) dL_act_1 (by decide) (fun _ => ?_) (fun h => absurd h (by decide))
  refine mw_iload_n hX dL_act_15 rfl rfl ?_
  refine mw_ic hX (nI 1) dL_act_16 rfl ?_
  refine mw_icmp_ne hX (tgt := 29) dL_act_17 (by decide) (fun _ => ?_) (fun h => absurd h (by decide))
  refine mw_iload_n hX dL_act_29 rfl rfl ?_
  refine mw_ic hX (nI 2) dL_act_30 rfl ?_
  refine mw_icmp_ne hX (tgt := 45) dL_act_31 (by decide) (fun _ => ?_) (fun h => absurd h (by decide))
  refine mw_iload_n hX dL_act_45 rfl rfl ?_
  refine mw_ic hX (nI 3) dL_act_46 rfl ?_
  refine mw_icmp_ne hX (tgt := 63) dL_act_47 (by decide) (fun _ => ?_) (fun h => absurd h (by decide))
  refine mw_iload_n hX dL_act_63 rfl rfl ?_
  refine mw_ic hX (nI 4) dL_act_64 rfl ?_
  refine mw_icmp_ne hX (tgt := 76) dL_act_65 (by decide) (fun _ => ?_) (fun h => absurd h (by decide))
  refine mw_iload_n hX dL_act_76 rfl rfl ?_
  refine mw_ic hX (nI 5) dL_act_77 rfl ?_
  refine mw_icmp_ne hX (tgt := 92) dL_act_78 (by decide) (fun _ => ?_) (fun h => absurd h (by decide))
  refine mw_iload_n hX dL_act_92 rfl rfl ?_
  refine mw_bp hX (nI 6) dL_act_93 rfl ?_
  refine mw_icmp_ne hX (tgt := 107) dL_act_95 (by decide) (fun h => absurd h (by decide)) (fun _ => ?_)
  refine mw_aload_n hX dL_act_98 rfl rfl ?_
  refine mw_iload_n hX dL_act_99 rfl rfl ?_
  refine mw_iload_n hX dL_act_100 rfl rfl ?_
  refine mw_cVC hX [_, _] ws_L_37 dL_act_101 hc (mw_Yl (by decide)) mw_YW (by decide) rfl (by omega) (by omega) (by omega) (Nat.le_of_ble_eq_true rfl) [] ((tableOf [(0, 299, 300, 13)]).head (by decide)) (tableOf [(0, 299, 306, 82)]) (hT.trans rfl) (fun _ h => absurd h List.not_mem_nil) (by decide) (by decide) wk_13 (Or.inl rfl) (hp2 := 300) (i := 6) (wd := 2) rfl (Nat.le_of_ble_eq_true rfl) (Or.inr ⟨dL_act_300, rfl⟩) ?_
  dsimp only [List.set]
  refine mw_sp hX (-8002) dL_act_302 rfl ?_
  exact mw_ireturn hX hE dL_act_305 rfl (by omega) (by omega)
set_option maxRecDepth 20000 in
theorem w_levelX (l : Launch) (v1 v2 v3 v4 : Int32) (d0 mc ms : Nat) (hd : d0 < 13) (hmc : mc ≤ 4) (hms : ms ≤ 24) {I : mw_I} {L : mw_L} (hc : mw_CT l yX1_level (.code yX1_level cX1_level 2 (some .int)) d0 mc ms [.ref 0, .int v1] (mw_Y0, I, L) (.inr "java/lang/IllegalArgumentException")) : mw_CT l yL_act (.codeWith yL_act cL_act 7 (some .int) [(0, 299, 300, 13), (0, 299, 306, 82)]) 13 4 24 [.ref 0, .int (nI 7), .int v1, .int v2, .int v3, .int v4] (mw_Y0, I, L) (.inl (some (.int (-8002)), mw_Y0, I, L)) := by
  refine mw_enterH RL rfl (by decide +kernel) (mw_cat rfl) (Nat.le_of_ble_eq_true rfl) (fun X hX hl hE hT => ?_)
  subst hl
  show mw_G X 0 [some (.ref 0), some (.int (nI 7)), some (.int v1), some (.int v2), some (.int v3), some (.int v4), none] [] mw_Y0 I L 0 0
  refine mw_iload_n hX dL_act_0 rfl rfl ?_
  refine mw_if_ne hX (tgt := 15) dL_act_1 (by decide) (fun _ => ?_) (fun h => absurd h (by decide))
  refine mw_iload_n hX dL_act_15 rfl rfl ?_
  refine mw_ic hX (nI 1) dL_act_16 rfl ?_
  refine mw_icmp_ne hX (tgt := 29) dL_act_17 (by decide) (fun _ => ?_) (fun h => absurd h (by decide))
  refine mw_iload_n hX dL_act_29 rfl rfl ?_
  refine mw_ic hX (nI 2) dL_act_30 rfl ?_
  refine mw_icmp_ne hX (tgt := 45) dL_act_31 (by decide) (fun _ => ?_) (fun h => absurd h (by decide))
  refine mw_iload_n hX dL_act_45 rfl rfl ?_
  refine mw_ic hX (nI 3) dL_act_46 rfl ?_
  refine mw_icmp_ne hX (tgt := 63) dL_act_47 (by decide) (fun _ => ?_) (fun h => absurd h (by decide))
  refine mw_iload_n hX dL_act_63 rfl rfl ?_
  refine mw_ic hX (nI 4) dL_act_64 rfl ?_
  refine mw_icmp_ne hX (tgt := 76) dL_act_65 (by decide) (fun _ => ?_) (fun h => absurd h (by decide))
  refine mw_iload_n hX dL_act_76 rfl rfl ?_
  refine mw_ic hX (nI 5) dL_act_77 rfl ?_
  refine mw_icmp_ne hX (tgt := 92) dL_act_78 (by decide) (fun _ => ?_) (fun h => absurd h (by decide))
  refine mw_iload_n hX dL_act_92 rfl rfl ?_
  refine mw_bp hX (nI 6) dL_act_93 rfl ?_
  refine mw_icmp_ne hX (tgt := 107) dL_act_95 (by decide) (fun _ => ?_) (fun h => absurd h (by decide))
  refine mw_iload_n hX dL_act_107 rfl rfl ?_
  refine mw_bp hX (nI 7) dL_act_108 rfl ?_
  refine mw_icmp_ne hX (tgt := 121) dL_act_110 (by decide) (fun h => absurd h (by decide)) (fun _ => ?_)
  refine mw_aload_n hX dL_act_113 rfl rfl ?_
  refine mw_iload_n hX dL_act_114 rfl rfl ?_
  refine mw_cVC hX [_] ws_L_40 dL_act_115 hc (mw_Yl (by decide)) mw_YW (by decide) rfl (by omega) (by omega) (by omega) (Nat.le_of_ble_eq_true rfl) [] ((tableOf [(0, 299, 300, 13)]).head (by decide)) (tableOf [(0, 299, 306, 82)]) (hT.trans rfl) (fun _ h => absurd h List.not_mem_nil) (by decide) (by decide) wk_13 (Or.inl rfl) (hp2 := 300) (i := 6) (wd := 2) rfl (Nat.le_of_ble_eq_true rfl) (Or.inr ⟨dL_act_300, rfl⟩) ?_
  dsimp only [List.set]
  refine mw_sp hX (-8002) dL_act_302 rfl ?_
  exact mw_ireturn hX hE dL_act_305 rfl (by omega) (by omega)
set_option maxRecDepth 20000 in
theorem w_travellingX (l : Launch) (v1 v2 v3 v4 : Int32) (d0 mc ms : Nat) (hd : d0 < 13) (hmc : mc ≤ 4) (hms : ms ≤ 24) {I : mw_I} {L : mw_L} (hc : mw_CT l yX1_travelling (.code yX1_travelling cX1_travelling 3 (some .int)) d0 mc ms [.ref 0, .int v1, .int v2] (mw_Y0, I, L) (.inr "java/lang/IllegalArgumentException")) : mw_CT l yL_act (.codeWith yL_act cL_act 7 (some .int) [(0, 299, 300, 13), (0, 299, 306, 82)]) 13 4 24 [.ref 0, .int (nI 8), .int v1, .int v2, .int v3, .int v4] (mw_Y0, I, L) (.inl (some (.int (-8002)), mw_Y0, I, L)) := by
  refine mw_enterH RL rfl (by decide +kernel) (mw_cat rfl) (Nat.le_of_ble_eq_true rfl) (fun X hX hl hE hT => ?_)
  subst hl
  show mw_G X 0 [some (.ref 0), some (.int (nI 8)), some (.int v1), some (.int v2), some (.int v3), some (.int v4), none] [] mw_Y0 I L 0 0
  refine mw_iload_n hX dL_act_0 rfl rfl ?_
  refine mw_if_ne hX (tgt := 15) dL_act_1 (by decide) (fun _ => ?_) (fun h => absurd h (by decide))
  refine mw_iload_n hX dL_act_15 rfl rfl ?_
  refine mw_ic hX (nI 1) dL_act_16 rfl ?_
  refine mw_icmp_ne hX (tgt := 29) dL_act_17 (by decide) (fun _ => ?_) (fun h => absurd h (by decide))
  refine mw_iload_n hX dL_act_29 rfl rfl ?_
  refine mw_ic hX (nI 2) dL_act_30 rfl ?_
  refine mw_icmp_ne hX (tgt := 45) dL_act_31 (by decide) (fun _ => ?_) (fun h => absurd h (by decide))
  refine mw_iload_n hX dL_act_45 rfl rfl ?_
  refine mw_ic hX (nI 3) dL_act_46 rfl ?_
  refine mw_icmp_ne hX (tgt := 63) dL_act_47 (by decide) (fun _ => ?_) (fun h => absurd h (by decide))
  refine mw_iload_n hX dL_act_63 rfl rfl ?_
  refine mw_ic hX (nI 4) dL_act_64 rfl ?_
  refine mw_icmp_ne hX (tgt := 76) dL_act_65 (by decide) (fun _ => ?_) (fun h => absurd h (by decide))
  refine mw_iload_n hX dL_act_76 rfl rfl ?_
  refine mw_ic hX (nI 5) dL_act_77 rfl ?_
  refine mw_icmp_ne hX (tgt := 92) dL_act_78 (by decide) (fun _ => ?_) (fun h => absurd h (by decide))
  refine mw_iload_n hX dL_act_92 rfl rfl ?_
  refine mw_bp hX (nI 6) dL_act_93 rfl ?_
  refine mw_icmp_ne hX (tgt := 107) dL_act_95 (by decide) (fun _ => ?_) (fun h => absurd h (by decide))
  refine mw_iload_n hX dL_act_107 rfl rfl ?_
  refine mw_bp hX (nI 7) dL_act_108 rfl ?_
  refine mw_icmp_ne hX (tgt := 121) dL_act_110 (by decide) (fun _ => ?_) (fun h => absurd h (by decide))
  refine mw_iload_n hX dL_act_121 rfl rfl ?_
  refine mw_bp hX (nI 8) dL_act_122 rfl ?_
  refine mw_icmp_ne hX (tgt := 136) dL_act_124 (by decide) (fun h => absurd h (by decide)) (fun _ => ?_)
  refine mw_aload_n hX dL_act_127 rfl rfl ?_
  refine mw_iload_n hX dL_act_128 rfl rfl ?_
  refine mw_iload_n hX dL_act_129 rfl rfl ?_
  refine mw_cVC hX [_, _] ws_L_43 dL_act_130 hc (mw_Yl (by decide)) mw_YW (by decide) rfl (by omega) (by omega) (by omega) (Nat.le_of_ble_eq_true rfl) [] ((tableOf [(0, 299, 300, 13)]).head (by decide)) (tableOf [(0, 299, 306, 82)]) (hT.trans rfl) (fun _ h => absurd h List.not_mem_nil) (by decide) (by decide) wk_13 (Or.inl rfl) (hp2 := 300) (i := 6) (wd := 2) rfl (Nat.le_of_ble_eq_true rfl) (Or.inr ⟨dL_act_300, rfl⟩) ?_
  dsimp only [List.set]
  refine mw_sp hX (-8002) dL_act_302 rfl ?_
  exact mw_ireturn hX hE dL_act_305 rfl (by omega) (by omega)
set_option maxRecDepth 20000 in
theorem w_arrivingX (l : Launch) (v1 v2 v3 v4 : Int32) (d0 mc ms : Nat) (hd : d0 < 13) (hmc : mc ≤ 4) (hms : ms ≤ 24) {I : mw_I} {L : mw_L} (hc : mw_CT l yX1_arriving (.code yX1_arriving cX1_arriving 4 (some .int)) d0 mc ms [.ref 0, .int v1, .int v2, .int v3] (mw_Y0, I, L) (.inr "java/lang/IllegalArgumentException")) : mw_CT l yL_act (.codeWith yL_act cL_act 7 (some .int) [(0, 299, 300, 13), (0, 299, 306, 82)]) 13 4 24 [.ref 0, .int (nI 9), .int v1, .int v2, .int v3, .int v4] (mw_Y0, I, L) (.inl (some (.int (-8002)), mw_Y0, I, L)) := by
  refine mw_enterH RL rfl (by decide +kernel) (mw_cat rfl) (Nat.le_of_ble_eq_true rfl) (fun X hX hl hE hT => ?_)
  subst hl
  show mw_G X 0 [some (.ref 0), some (.int (nI 9)), some (.int v1), some (.int v2), some (.int v3), some (.int v4), none] [] mw_Y0 I L 0 0
  refine mw_iload_n hX dL_act_0 rfl rfl ?_
  refine mw_if_ne hX (tgt := 15) dL_act_1 (by decide) (fun _ => ?_) (fun h => absurd h (by decide))
  refine mw_iload_n hX dL_act_15 rfl rfl ?_
  refine mw_ic hX (nI 1) dL_act_16 rfl ?_
  refine mw_icmp_ne hX (tgt := 29) dL_act_17 (by decide) (fun _ => ?_) (fun h => absurd h (by decide))
  refine mw_iload_n hX dL_act_29 rfl rfl ?_
  refine mw_ic hX (nI 2) dL_act_30 rfl ?_
  refine mw_icmp_ne hX (tgt := 45) dL_act_31 (by decide) (fun _ => ?_) (fun h => absurd h (by decide))
  refine mw_iload_n hX dL_act_45 rfl rfl ?_
  refine mw_ic hX (nI 3) dL_act_46 rfl ?_
  refine mw_icmp_ne hX (tgt := 63) dL_act_47 (by decide) (fun _ => ?_) (fun h => absurd h (by decide))
  refine mw_iload_n hX dL_act_63 rfl rfl ?_
  refine mw_ic hX (nI 4) dL_act_64 rfl ?_
  refine mw_icmp_ne hX (tgt := 76) dL_act_65 (by decide) (fun _ => ?_) (fun h => absurd h (by decide))
  refine mw_iload_n hX dL_act_76 rfl rfl ?_
  refine mw_ic hX (nI 5) dL_act_77 rfl ?_
  refine mw_icmp_ne hX (tgt := 92) dL_act_78 (by decide) (fun _ => ?_) (fun h => absurd h (by decide))
  refine mw_iload_n hX dL_act_92 rfl rfl ?_
  refine mw_bp hX (nI 6) dL_act_93 rfl ?_
  refine mw_icmp_ne hX (tgt := 107) dL_act_95 (by decide) (fun _ => ?_) (fun h => absurd h (by decide))
  refine mw_iload_n hX dL_act_107 rfl rfl ?_
  refine mw_bp hX (nI 7) dL_act_108 rfl ?_
  refine mw_icmp_ne hX (tgt := 121) dL_act_110 (by decide) (fun _ => ?_) (fun h => absurd h (by decide))
  refine mw_iload_n hX dL_act_121 rfl rfl ?_
  refine mw_bp hX (nI 8) dL_act_122 rfl ?_
  refine mw_icmp_ne hX (tgt := 136) dL_act_124 (by decide) (fun _ => ?_) (fun h => absurd h (by decide))
  refine mw_iload_n hX dL_act_136 rfl rfl ?_
  refine mw_bp hX (nI 9) dL_act_137 rfl ?_
  refine mw_icmp_ne hX (tgt := 153) dL_act_139 (by decide) (fun h => absurd h (by decide)) (fun _ => ?_)
  refine mw_aload_n hX dL_act_142 rfl rfl ?_
  refine mw_iload_n hX dL_act_143 rfl rfl ?_
  refine mw_iload_n hX dL_act_144 rfl rfl ?_
  refine mw_iload hX dL_act_145 rfl ?_
  refine mw_cVC hX [_, _, _] ws_L_46 dL_act_147 hc (mw_Yl (by decide)) mw_YW (by decide) rfl (by omega) (by omega) (by omega) (Nat.le_of_ble_eq_true rfl) [] ((tableOf [(0, 299, 300, 13)]).head (by decide)) (tableOf [(0, 299, 306, 82)]) (hT.trans rfl) (fun _ h => absurd h List.not_mem_nil) (by decide) (by decide) wk_13 (Or.inl rfl) (hp2 := 300) (i := 6) (wd := 2) rfl (Nat.le_of_ble_eq_true rfl) (Or.inr ⟨dL_act_300, rfl⟩) ?_
  dsimp only [List.set]
  refine mw_sp hX (-8002) dL_act_302 rfl ?_
  exact mw_ireturn hX hE dL_act_305 rfl (by omega) (by omega)
set_option maxRecDepth 20000 in
theorem w_cameInX (l : Launch) (v1 v2 v3 v4 : Int32) (d0 mc ms : Nat) (hd : d0 < 13) (hmc : mc ≤ 4) (hms : ms ≤ 24) {I : mw_I} {L : mw_L} (hc : mw_CT l yX1_cameIn (.code yX1_cameIn cX1_cameIn 2 (some .int)) d0 mc ms [.ref 0, .int v1] (mw_Y0, I, L) (.inr "java/lang/IllegalArgumentException")) : mw_CT l yL_act (.codeWith yL_act cL_act 7 (some .int) [(0, 299, 300, 13), (0, 299, 306, 82)]) 13 4 24 [.ref 0, .int (nI 10), .int v1, .int v2, .int v3, .int v4] (mw_Y0, I, L) (.inl (some (.int (-8002)), mw_Y0, I, L)) := by
  refine mw_enterH RL rfl (by decide +kernel) (mw_cat rfl) (Nat.le_of_ble_eq_true rfl) (fun X hX hl hE hT => ?_)
  subst hl
  show mw_G X 0 [some (.ref 0), some (.int (nI 10)), some (.int v1), some (.int v2), some (.int v3), some (.int v4), none] [] mw_Y0 I L 0 0
  refine mw_iload_n hX dL_act_0 rfl rfl ?_
  refine mw_if_ne hX (tgt := 15) dL_act_1 (by decide) (fun _ => ?_) (fun h => absurd h (by decide))
  refine mw_iload_n hX dL_act_15 rfl rfl ?_
  refine mw_ic hX (nI 1) dL_act_16 rfl ?_
  refine mw_icmp_ne hX (tgt := 29) dL_act_17 (by decide) (fun _ => ?_) (fun h => absurd h (by decide))
  refine mw_iload_n hX dL_act_29 rfl rfl ?_
  refine mw_ic hX (nI 2) dL_act_30 rfl ?_
  refine mw_icmp_ne hX (tgt := 45) dL_act_31 (by decide) (fun _ => ?_) (fun h => absurd h (by decide))
  refine mw_iload_n hX dL_act_45 rfl rfl ?_
  refine mw_ic hX (nI 3) dL_act_46 rfl ?_
  refine mw_icmp_ne hX (tgt := 63) dL_act_47 (by decide) (fun _ => ?_) (fun h => absurd h (by decide))
  refine mw_iload_n hX dL_act_63 rfl rfl ?_
  refine mw_ic hX (nI 4) dL_act_64 rfl ?_
  refine mw_icmp_ne hX (tgt := 76) dL_act_65 (by decide) (fun _ => ?_) (fun h => absurd h (by decide))
  refine mw_iload_n hX dL_act_76 rfl rfl ?_
  refine mw_ic hX (nI 5) dL_act_77 rfl ?_
  refine mw_icmp_ne hX (tgt := 92) dL_act_78 (by decide) (fun _ => ?_) (fun h => absurd h (by decide))
  refine mw_iload_n hX dL_act_92 rfl rfl ?_
  refine mw_bp hX (nI 6) dL_act_93 rfl ?_
  refine mw_icmp_ne hX (tgt := 107) dL_act_95 (by decide) (fun _ => ?_) (fun h => absurd h (by decide))
  refine mw_iload_n hX dL_act_107 rfl rfl ?_
  refine mw_bp hX (nI 7) dL_act_108 rfl ?_
  refine mw_icmp_ne hX (tgt := 121) dL_act_110 (by decide) (fun _ => ?_) (fun h => absurd h (by decide))
  refine mw_iload_n hX dL_act_121 rfl rfl ?_
  refine mw_bp hX (nI 8) dL_act_122 rfl ?_
  refine mw_icmp_ne hX (tgt := 136) dL_act_124 (by decide) (fun _ => ?_) (fun h => absurd h (by decide))
  refine mw_iload_n hX dL_act_136 rfl rfl ?_
  refine mw_bp hX (nI 9) dL_act_137 rfl ?_
  refine mw_icmp_ne hX (tgt := 153) dL_act_139 (by decide) (fun _ => ?_) (fun h => absurd h (by decide))
  refine mw_iload_n hX dL_act_153 rfl rfl ?_
  refine mw_bp hX (nI 10) dL_act_154 rfl ?_
  refine mw_icmp_ne hX (tgt := 167) dL_act_156 (by decide) (fun h => absurd h (by decide)) (fun _ => ?_)
  refine mw_aload_n hX dL_act_159 rfl rfl ?_
  refine mw_iload_n hX dL_act_160 rfl rfl ?_
  refine mw_cVC hX [_] ws_L_49 dL_act_161 hc (mw_Yl (by decide)) mw_YW (by decide) rfl (by omega) (by omega) (by omega) (Nat.le_of_ble_eq_true rfl) [] ((tableOf [(0, 299, 300, 13)]).head (by decide)) (tableOf [(0, 299, 306, 82)]) (hT.trans rfl) (fun _ h => absurd h List.not_mem_nil) (by decide) (by decide) wk_13 (Or.inl rfl) (hp2 := 300) (i := 6) (wd := 2) rfl (Nat.le_of_ble_eq_true rfl) (Or.inr ⟨dL_act_300, rfl⟩) ?_
  dsimp only [List.set]
  refine mw_sp hX (-8002) dL_act_302 rfl ?_
  exact mw_ireturn hX hE dL_act_305 rfl (by omega) (by omega)
set_option maxRecDepth 20000 in
theorem w_goneX (l : Launch) (v1 v2 v3 v4 : Int32) (d0 mc ms : Nat) (hd : d0 < 13) (hmc : mc ≤ 4) (hms : ms ≤ 24) {I : mw_I} {L : mw_L} (hc : mw_CT l yX1_gone (.code yX1_gone cX1_gone 2 (some .int)) d0 mc ms [.ref 0, .int v1] (mw_Y0, I, L) (.inr "java/lang/IllegalArgumentException")) : mw_CT l yL_act (.codeWith yL_act cL_act 7 (some .int) [(0, 299, 300, 13), (0, 299, 306, 82)]) 13 4 24 [.ref 0, .int (nI 11), .int v1, .int v2, .int v3, .int v4] (mw_Y0, I, L) (.inl (some (.int (-8002)), mw_Y0, I, L)) := by
  refine mw_enterH RL rfl (by decide +kernel) (mw_cat rfl) (Nat.le_of_ble_eq_true rfl) (fun X hX hl hE hT => ?_)
  subst hl
  show mw_G X 0 [some (.ref 0), some (.int (nI 11)), some (.int v1), some (.int v2), some (.int v3), some (.int v4), none] [] mw_Y0 I L 0 0
  refine mw_iload_n hX dL_act_0 rfl rfl ?_
  refine mw_if_ne hX (tgt := 15) dL_act_1 (by decide) (fun _ => ?_) (fun h => absurd h (by decide))
  refine mw_iload_n hX dL_act_15 rfl rfl ?_
  refine mw_ic hX (nI 1) dL_act_16 rfl ?_
  refine mw_icmp_ne hX (tgt := 29) dL_act_17 (by decide) (fun _ => ?_) (fun h => absurd h (by decide))
  refine mw_iload_n hX dL_act_29 rfl rfl ?_
  refine mw_ic hX (nI 2) dL_act_30 rfl ?_
  refine mw_icmp_ne hX (tgt := 45) dL_act_31 (by decide) (fun _ => ?_) (fun h => absurd h (by decide))
  refine mw_iload_n hX dL_act_45 rfl rfl ?_
  refine mw_ic hX (nI 3) dL_act_46 rfl ?_
  refine mw_icmp_ne hX (tgt := 63) dL_act_47 (by decide) (fun _ => ?_) (fun h => absurd h (by decide))
  refine mw_iload_n hX dL_act_63 rfl rfl ?_
  refine mw_ic hX (nI 4) dL_act_64 rfl ?_
  refine mw_icmp_ne hX (tgt := 76) dL_act_65 (by decide) (fun _ => ?_) (fun h => absurd h (by decide))
  refine mw_iload_n hX dL_act_76 rfl rfl ?_
  refine mw_ic hX (nI 5) dL_act_77 rfl ?_
  refine mw_icmp_ne hX (tgt := 92) dL_act_78 (by decide) (fun _ => ?_) (fun h => absurd h (by decide))
  refine mw_iload_n hX dL_act_92 rfl rfl ?_
  refine mw_bp hX (nI 6) dL_act_93 rfl ?_
  refine mw_icmp_ne hX (tgt := 107) dL_act_95 (by decide) (fun _ => ?_) (fun h => absurd h (by decide))
  refine mw_iload_n hX dL_act_107 rfl rfl ?_
  refine mw_bp hX (nI 7) dL_act_108 rfl ?_
  refine mw_icmp_ne hX (tgt := 121) dL_act_110 (by decide) (fun _ => ?_) (fun h => absurd h (by decide))
  refine mw_iload_n hX dL_act_121 rfl rfl ?_
  refine mw_bp hX (nI 8) dL_act_122 rfl ?_
  refine mw_icmp_ne hX (tgt := 136) dL_act_124 (by decide) (fun _ => ?_) (fun h => absurd h (by decide))
  refine mw_iload_n hX dL_act_136 rfl rfl ?_
  refine mw_bp hX (nI 9) dL_act_137 rfl ?_
  refine mw_icmp_ne hX (tgt := 153) dL_act_139 (by decide) (fun _ => ?_) (fun h => absurd h (by decide))
  refine mw_iload_n hX dL_act_153 rfl rfl ?_
  refine mw_bp hX (nI 10) dL_act_154 rfl ?_
  refine mw_icmp_ne hX (tgt := 167) dL_act_156 (by decide) (fun _ => ?_) (fun h => absurd h (by decide))
  refine mw_iload_n hX dL_act_167 rfl rfl ?_
  refine mw_bp hX (nI 11) dL_act_168 rfl ?_
  refine mw_icmp_ne hX (tgt := 181) dL_act_170 (by decide) (fun h => absurd h (by decide)) (fun _ => ?_)
  refine mw_aload_n hX dL_act_173 rfl rfl ?_
  refine mw_iload_n hX dL_act_174 rfl rfl ?_
  refine mw_cVC hX [_] ws_L_52 dL_act_175 hc (mw_Yl (by decide)) mw_YW (by decide) rfl (by omega) (by omega) (by omega) (Nat.le_of_ble_eq_true rfl) [] ((tableOf [(0, 299, 300, 13)]).head (by decide)) (tableOf [(0, 299, 306, 82)]) (hT.trans rfl) (fun _ h => absurd h List.not_mem_nil) (by decide) (by decide) wk_13 (Or.inl rfl) (hp2 := 300) (i := 6) (wd := 2) rfl (Nat.le_of_ble_eq_true rfl) (Or.inr ⟨dL_act_300, rfl⟩) ?_
  dsimp only [List.set]
  refine mw_sp hX (-8002) dL_act_302 rfl ?_
  exact mw_ireturn hX hE dL_act_305 rfl (by omega) (by omega)
set_option maxRecDepth 20000 in
theorem w_balanceX (l : Launch) (v1 v2 v3 v4 : Int32) (d0 mc ms : Nat) (hd : d0 < 13) (hmc : mc ≤ 4) (hms : ms ≤ 24) {I : mw_I} {L : mw_L} (hc : mw_CT l yX1_balance (.code yX1_balance cX1_balance 2 (some .int)) d0 mc ms [.ref 0, .int v1] (mw_Y0, I, L) (.inr "java/lang/IllegalArgumentException")) : mw_CT l yL_act (.codeWith yL_act cL_act 7 (some .int) [(0, 299, 300, 13), (0, 299, 306, 82)]) 13 4 24 [.ref 0, .int (nI 12), .int v1, .int v2, .int v3, .int v4] (mw_Y0, I, L) (.inl (some (.int (-8002)), mw_Y0, I, L)) := by
  refine mw_enterH RL rfl (by decide +kernel) (mw_cat rfl) (Nat.le_of_ble_eq_true rfl) (fun X hX hl hE hT => ?_)
  subst hl
  show mw_G X 0 [some (.ref 0), some (.int (nI 12)), some (.int v1), some (.int v2), some (.int v3), some (.int v4), none] [] mw_Y0 I L 0 0
  refine mw_iload_n hX dL_act_0 rfl rfl ?_
  refine mw_if_ne hX (tgt := 15) dL_act_1 (by decide) (fun _ => ?_) (fun h => absurd h (by decide))
  refine mw_iload_n hX dL_act_15 rfl rfl ?_
  refine mw_ic hX (nI 1) dL_act_16 rfl ?_
  refine mw_icmp_ne hX (tgt := 29) dL_act_17 (by decide) (fun _ => ?_) (fun h => absurd h (by decide))
  refine mw_iload_n hX dL_act_29 rfl rfl ?_
  refine mw_ic hX (nI 2) dL_act_30 rfl ?_
  refine mw_icmp_ne hX (tgt := 45) dL_act_31 (by decide) (fun _ => ?_) (fun h => absurd h (by decide))
  refine mw_iload_n hX dL_act_45 rfl rfl ?_
  refine mw_ic hX (nI 3) dL_act_46 rfl ?_
  refine mw_icmp_ne hX (tgt := 63) dL_act_47 (by decide) (fun _ => ?_) (fun h => absurd h (by decide))
  refine mw_iload_n hX dL_act_63 rfl rfl ?_
  refine mw_ic hX (nI 4) dL_act_64 rfl ?_
  refine mw_icmp_ne hX (tgt := 76) dL_act_65 (by decide) (fun _ => ?_) (fun h => absurd h (by decide))
  refine mw_iload_n hX dL_act_76 rfl rfl ?_
  refine mw_ic hX (nI 5) dL_act_77 rfl ?_
  refine mw_icmp_ne hX (tgt := 92) dL_act_78 (by decide) (fun _ => ?_) (fun h => absurd h (by decide))
  refine mw_iload_n hX dL_act_92 rfl rfl ?_
  refine mw_bp hX (nI 6) dL_act_93 rfl ?_
  refine mw_icmp_ne hX (tgt := 107) dL_act_95 (by decide) (fun _ => ?_) (fun h => absurd h (by decide))
  refine mw_iload_n hX dL_act_107 rfl rfl ?_
  refine mw_bp hX (nI 7) dL_act_108 rfl ?_
  refine mw_icmp_ne hX (tgt := 121) dL_act_110 (by decide) (fun _ => ?_) (fun h => absurd h (by decide))
  refine mw_iload_n hX dL_act_121 rfl rfl ?_
  refine mw_bp hX (nI 8) dL_act_122 rfl ?_
  refine mw_icmp_ne hX (tgt := 136) dL_act_124 (by decide) (fun _ => ?_) (fun h => absurd h (by decide))
  refine mw_iload_n hX dL_act_136 rfl rfl ?_
  refine mw_bp hX (nI 9) dL_act_137 rfl ?_
  refine mw_icmp_ne hX (tgt := 153) dL_act_139 (by decide) (fun _ => ?_) (fun h => absurd h (by decide))
  refine mw_iload_n hX dL_act_153 rfl rfl ?_
  refine mw_bp hX (nI 10) dL_act_154 rfl ?_
  refine mw_icmp_ne hX (tgt := 167) dL_act_156 (by decide) (fun _ => ?_) (fun h => absurd h (by decide))
  refine mw_iload_n hX dL_act_167 rfl rfl ?_
  refine mw_bp hX (nI 11) dL_act_168 rfl ?_
  refine mw_icmp_ne hX (tgt := 181) dL_act_170 (by decide) (fun _ => ?_) (fun h => absurd h (by decide))
  refine mw_iload_n hX dL_act_181 rfl rfl ?_
  refine mw_bp hX (nI 12) dL_act_182 rfl ?_
  refine mw_icmp_ne hX (tgt := 195) dL_act_184 (by decide) (fun h => absurd h (by decide)) (fun _ => ?_)
  refine mw_aload_n hX dL_act_187 rfl rfl ?_
  refine mw_iload_n hX dL_act_188 rfl rfl ?_
  refine mw_cVC hX [_] ws_L_55 dL_act_189 hc (mw_Yl (by decide)) mw_YW (by decide) rfl (by omega) (by omega) (by omega) (Nat.le_of_ble_eq_true rfl) [] ((tableOf [(0, 299, 300, 13)]).head (by decide)) (tableOf [(0, 299, 306, 82)]) (hT.trans rfl) (fun _ h => absurd h List.not_mem_nil) (by decide) (by decide) wk_13 (Or.inl rfl) (hp2 := 300) (i := 6) (wd := 2) rfl (Nat.le_of_ble_eq_true rfl) (Or.inr ⟨dL_act_300, rfl⟩) ?_
  dsimp only [List.set]
  refine mw_sp hX (-8002) dL_act_302 rfl ?_
  exact mw_ireturn hX hE dL_act_305 rfl (by omega) (by omega)
set_option maxRecDepth 20000 in
theorem w_spilledX (l : Launch) (v1 v2 v3 v4 : Int32) (d0 mc ms : Nat) (hd : d0 < 13) (hmc : mc ≤ 4) (hms : ms ≤ 24) {I : mw_I} {L : mw_L} (hc : mw_CT l yX1_spilled (.code yX1_spilled cX1_spilled 2 (some .int)) d0 mc ms [.ref 0, .int v1] (mw_Y0, I, L) (.inr "java/lang/IllegalArgumentException")) : mw_CT l yL_act (.codeWith yL_act cL_act 7 (some .int) [(0, 299, 300, 13), (0, 299, 306, 82)]) 13 4 24 [.ref 0, .int (nI 13), .int v1, .int v2, .int v3, .int v4] (mw_Y0, I, L) (.inl (some (.int (-8002)), mw_Y0, I, L)) := by
  refine mw_enterH RL rfl (by decide +kernel) (mw_cat rfl) (Nat.le_of_ble_eq_true rfl) (fun X hX hl hE hT => ?_)
  subst hl
  show mw_G X 0 [some (.ref 0), some (.int (nI 13)), some (.int v1), some (.int v2), some (.int v3), some (.int v4), none] [] mw_Y0 I L 0 0
  refine mw_iload_n hX dL_act_0 rfl rfl ?_
  refine mw_if_ne hX (tgt := 15) dL_act_1 (by decide) (fun _ => ?_) (fun h => absurd h (by decide))
  refine mw_iload_n hX dL_act_15 rfl rfl ?_
  refine mw_ic hX (nI 1) dL_act_16 rfl ?_
  refine mw_icmp_ne hX (tgt := 29) dL_act_17 (by decide) (fun _ => ?_) (fun h => absurd h (by decide))
  refine mw_iload_n hX dL_act_29 rfl rfl ?_
  refine mw_ic hX (nI 2) dL_act_30 rfl ?_
  refine mw_icmp_ne hX (tgt := 45) dL_act_31 (by decide) (fun _ => ?_) (fun h => absurd h (by decide))
  refine mw_iload_n hX dL_act_45 rfl rfl ?_
  refine mw_ic hX (nI 3) dL_act_46 rfl ?_
  refine mw_icmp_ne hX (tgt := 63) dL_act_47 (by decide) (fun _ => ?_) (fun h => absurd h (by decide))
  refine mw_iload_n hX dL_act_63 rfl rfl ?_
  refine mw_ic hX (nI 4) dL_act_64 rfl ?_
  refine mw_icmp_ne hX (tgt := 76) dL_act_65 (by decide) (fun _ => ?_) (fun h => absurd h (by decide))
  refine mw_iload_n hX dL_act_76 rfl rfl ?_
  refine mw_ic hX (nI 5) dL_act_77 rfl ?_
  refine mw_icmp_ne hX (tgt := 92) dL_act_78 (by decide) (fun _ => ?_) (fun h => absurd h (by decide))
  refine mw_iload_n hX dL_act_92 rfl rfl ?_
  refine mw_bp hX (nI 6) dL_act_93 rfl ?_
  refine mw_icmp_ne hX (tgt := 107) dL_act_95 (by decide) (fun _ => ?_) (fun h => absurd h (by decide))
  refine mw_iload_n hX dL_act_107 rfl rfl ?_
  refine mw_bp hX (nI 7) dL_act_108 rfl ?_
  refine mw_icmp_ne hX (tgt := 121) dL_act_110 (by decide) (fun _ => ?_) (fun h => absurd h (by decide))
  refine mw_iload_n hX dL_act_121 rfl rfl ?_
  refine mw_bp hX (nI 8) dL_act_122 rfl ?_
  refine mw_icmp_ne hX (tgt := 136) dL_act_124 (by decide) (fun _ => ?_) (fun h => absurd h (by decide))
  refine mw_iload_n hX dL_act_136 rfl rfl ?_
  refine mw_bp hX (nI 9) dL_act_137 rfl ?_
  refine mw_icmp_ne hX (tgt := 153) dL_act_139 (by decide) (fun _ => ?_) (fun h => absurd h (by decide))
  refine mw_iload_n hX dL_act_153 rfl rfl ?_
  refine mw_bp hX (nI 10) dL_act_154 rfl ?_
  refine mw_icmp_ne hX (tgt := 167) dL_act_156 (by decide) (fun _ => ?_) (fun h => absurd h (by decide))
  refine mw_iload_n hX dL_act_167 rfl rfl ?_
  refine mw_bp hX (nI 11) dL_act_168 rfl ?_
  refine mw_icmp_ne hX (tgt := 181) dL_act_170 (by decide) (fun _ => ?_) (fun h => absurd h (by decide))
  refine mw_iload_n hX dL_act_181 rfl rfl ?_
  refine mw_bp hX (nI 12) dL_act_182 rfl ?_
  refine mw_icmp_ne hX (tgt := 195) dL_act_184 (by decide) (fun _ => ?_) (fun h => absurd h (by decide))
  refine mw_iload_n hX dL_act_195 rfl rfl ?_
  refine mw_bp hX (nI 13) dL_act_196 rfl ?_
  refine mw_icmp_ne hX (tgt := 209) dL_act_198 (by decide) (fun h => absurd h (by decide)) (fun _ => ?_)
  refine mw_aload_n hX dL_act_201 rfl rfl ?_
  refine mw_iload_n hX dL_act_202 rfl rfl ?_
  refine mw_cVC hX [_] ws_L_58 dL_act_203 hc (mw_Yl (by decide)) mw_YW (by decide) rfl (by omega) (by omega) (by omega) (Nat.le_of_ble_eq_true rfl) [] ((tableOf [(0, 299, 300, 13)]).head (by decide)) (tableOf [(0, 299, 306, 82)]) (hT.trans rfl) (fun _ h => absurd h List.not_mem_nil) (by decide) (by decide) wk_13 (Or.inl rfl) (hp2 := 300) (i := 6) (wd := 2) rfl (Nat.le_of_ble_eq_true rfl) (Or.inr ⟨dL_act_300, rfl⟩) ?_
  dsimp only [List.set]
  refine mw_sp hX (-8002) dL_act_302 rfl ?_
  exact mw_ireturn hX hE dL_act_305 rfl (by omega) (by omega)
set_option maxRecDepth 20000 in
theorem w_missedX (l : Launch) (v1 v2 v3 v4 : Int32) (d0 mc ms : Nat) (hd : d0 < 13) (hmc : mc ≤ 4) (hms : ms ≤ 24) {I : mw_I} {L : mw_L} (hc : mw_CT l yX1_missed (.code yX1_missed cX1_missed 2 (some .int)) d0 mc ms [.ref 0, .int v1] (mw_Y0, I, L) (.inr "java/lang/IllegalArgumentException")) : mw_CT l yL_act (.codeWith yL_act cL_act 7 (some .int) [(0, 299, 300, 13), (0, 299, 306, 82)]) 13 4 24 [.ref 0, .int (nI 14), .int v1, .int v2, .int v3, .int v4] (mw_Y0, I, L) (.inl (some (.int (-8002)), mw_Y0, I, L)) := by
  refine mw_enterH RL rfl (by decide +kernel) (mw_cat rfl) (Nat.le_of_ble_eq_true rfl) (fun X hX hl hE hT => ?_)
  subst hl
  show mw_G X 0 [some (.ref 0), some (.int (nI 14)), some (.int v1), some (.int v2), some (.int v3), some (.int v4), none] [] mw_Y0 I L 0 0
  refine mw_iload_n hX dL_act_0 rfl rfl ?_
  refine mw_if_ne hX (tgt := 15) dL_act_1 (by decide) (fun _ => ?_) (fun h => absurd h (by decide))
  refine mw_iload_n hX dL_act_15 rfl rfl ?_
  refine mw_ic hX (nI 1) dL_act_16 rfl ?_
  refine mw_icmp_ne hX (tgt := 29) dL_act_17 (by decide) (fun _ => ?_) (fun h => absurd h (by decide))
  refine mw_iload_n hX dL_act_29 rfl rfl ?_
  refine mw_ic hX (nI 2) dL_act_30 rfl ?_
  refine mw_icmp_ne hX (tgt := 45) dL_act_31 (by decide) (fun _ => ?_) (fun h => absurd h (by decide))
  refine mw_iload_n hX dL_act_45 rfl rfl ?_
  refine mw_ic hX (nI 3) dL_act_46 rfl ?_
  refine mw_icmp_ne hX (tgt := 63) dL_act_47 (by decide) (fun _ => ?_) (fun h => absurd h (by decide))
  refine mw_iload_n hX dL_act_63 rfl rfl ?_
  refine mw_ic hX (nI 4) dL_act_64 rfl ?_
  refine mw_icmp_ne hX (tgt := 76) dL_act_65 (by decide) (fun _ => ?_) (fun h => absurd h (by decide))
  refine mw_iload_n hX dL_act_76 rfl rfl ?_
  refine mw_ic hX (nI 5) dL_act_77 rfl ?_
  refine mw_icmp_ne hX (tgt := 92) dL_act_78 (by decide) (fun _ => ?_) (fun h => absurd h (by decide))
  refine mw_iload_n hX dL_act_92 rfl rfl ?_
  refine mw_bp hX (nI 6) dL_act_93 rfl ?_
  refine mw_icmp_ne hX (tgt := 107) dL_act_95 (by decide) (fun _ => ?_) (fun h => absurd h (by decide))
  refine mw_iload_n hX dL_act_107 rfl rfl ?_
  refine mw_bp hX (nI 7) dL_act_108 rfl ?_
  refine mw_icmp_ne hX (tgt := 121) dL_act_110 (by decide) (fun _ => ?_) (fun h => absurd h (by decide))
  refine mw_iload_n hX dL_act_121 rfl rfl ?_
  refine mw_bp hX (nI 8) dL_act_122 rfl ?_
  refine mw_icmp_ne hX (tgt := 136) dL_act_124 (by decide) (fun _ => ?_) (fun h => absurd h (by decide))
  refine mw_iload_n hX dL_act_136 rfl rfl ?_
  refine mw_bp hX (nI 9) dL_act_137 rfl ?_
  refine mw_icmp_ne hX (tgt := 153) dL_act_139 (by decide) (fun _ => ?_) (fun h => absurd h (by decide))
  refine mw_iload_n hX dL_act_153 rfl rfl ?_
  refine mw_bp hX (nI 10) dL_act_154 rfl ?_
  refine mw_icmp_ne hX (tgt := 167) dL_act_156 (by decide) (fun _ => ?_) (fun h => absurd h (by decide))
  refine mw_iload_n hX dL_act_167 rfl rfl ?_
  refine mw_bp hX (nI 11) dL_act_168 rfl ?_
  refine mw_icmp_ne hX (tgt := 181) dL_act_170 (by decide) (fun _ => ?_) (fun h => absurd h (by decide))
  refine mw_iload_n hX dL_act_181 rfl rfl ?_
  refine mw_bp hX (nI 12) dL_act_182 rfl ?_
  refine mw_icmp_ne hX (tgt := 195) dL_act_184 (by decide) (fun _ => ?_) (fun h => absurd h (by decide))
  refine mw_iload_n hX dL_act_195 rfl rfl ?_
  refine mw_bp hX (nI 13) dL_act_196 rfl ?_
  refine mw_icmp_ne hX (tgt := 209) dL_act_198 (by decide) (fun _ => ?_) (fun h => absurd h (by decide))
  refine mw_iload_n hX dL_act_209 rfl rfl ?_
  refine mw_bp hX (nI 14) dL_act_210 rfl ?_
  refine mw_icmp_ne hX (tgt := 223) dL_act_212 (by decide) (fun h => absurd h (by decide)) (fun _ => ?_)
  refine mw_aload_n hX dL_act_215 rfl rfl ?_
  refine mw_iload_n hX dL_act_216 rfl rfl ?_
  refine mw_cVC hX [_] ws_L_61 dL_act_217 hc (mw_Yl (by decide)) mw_YW (by decide) rfl (by omega) (by omega) (by omega) (Nat.le_of_ble_eq_true rfl) [] ((tableOf [(0, 299, 300, 13)]).head (by decide)) (tableOf [(0, 299, 306, 82)]) (hT.trans rfl) (fun _ h => absurd h List.not_mem_nil) (by decide) (by decide) wk_13 (Or.inl rfl) (hp2 := 300) (i := 6) (wd := 2) rfl (Nat.le_of_ble_eq_true rfl) (Or.inr ⟨dL_act_300, rfl⟩) ?_
  dsimp only [List.set]
  refine mw_sp hX (-8002) dL_act_302 rfl ?_
  exact mw_ireturn hX hE dL_act_305 rfl (by omega) (by omega)
set_option maxRecDepth 20000 in
theorem w_flowX (l : Launch) (v1 v2 v3 v4 : Int32) (d0 mc ms : Nat) (hd : d0 < 13) (hmc : mc ≤ 4) (hms : ms ≤ 24) {I : mw_I} {L : mw_L} (hc : mw_CT l yX1_flow (.code yX1_flow cX1_flow 2 (some .int)) d0 mc ms [.ref 0, .int v1] (mw_Y0, I, L) (.inr "java/lang/IllegalArgumentException")) : mw_CT l yL_act (.codeWith yL_act cL_act 7 (some .int) [(0, 299, 300, 13), (0, 299, 306, 82)]) 13 4 24 [.ref 0, .int (nI 15), .int v1, .int v2, .int v3, .int v4] (mw_Y0, I, L) (.inl (some (.int (-8002)), mw_Y0, I, L)) := by
  refine mw_enterH RL rfl (by decide +kernel) (mw_cat rfl) (Nat.le_of_ble_eq_true rfl) (fun X hX hl hE hT => ?_)
  subst hl
  show mw_G X 0 [some (.ref 0), some (.int (nI 15)), some (.int v1), some (.int v2), some (.int v3), some (.int v4), none] [] mw_Y0 I L 0 0
  refine mw_iload_n hX dL_act_0 rfl rfl ?_
  refine mw_if_ne hX (tgt := 15) dL_act_1 (by decide) (fun _ => ?_) (fun h => absurd h (by decide))
  refine mw_iload_n hX dL_act_15 rfl rfl ?_
  refine mw_ic hX (nI 1) dL_act_16 rfl ?_
  refine mw_icmp_ne hX (tgt := 29) dL_act_17 (by decide) (fun _ => ?_) (fun h => absurd h (by decide))
  refine mw_iload_n hX dL_act_29 rfl rfl ?_
  refine mw_ic hX (nI 2) dL_act_30 rfl ?_
  refine mw_icmp_ne hX (tgt := 45) dL_act_31 (by decide) (fun _ => ?_) (fun h => absurd h (by decide))
  refine mw_iload_n hX dL_act_45 rfl rfl ?_
  refine mw_ic hX (nI 3) dL_act_46 rfl ?_
  refine mw_icmp_ne hX (tgt := 63) dL_act_47 (by decide) (fun _ => ?_) (fun h => absurd h (by decide))
  refine mw_iload_n hX dL_act_63 rfl rfl ?_
  refine mw_ic hX (nI 4) dL_act_64 rfl ?_
  refine mw_icmp_ne hX (tgt := 76) dL_act_65 (by decide) (fun _ => ?_) (fun h => absurd h (by decide))
  refine mw_iload_n hX dL_act_76 rfl rfl ?_
  refine mw_ic hX (nI 5) dL_act_77 rfl ?_
  refine mw_icmp_ne hX (tgt := 92) dL_act_78 (by decide) (fun _ => ?_) (fun h => absurd h (by decide))
  refine mw_iload_n hX dL_act_92 rfl rfl ?_
  refine mw_bp hX (nI 6) dL_act_93 rfl ?_
  refine mw_icmp_ne hX (tgt := 107) dL_act_95 (by decide) (fun _ => ?_) (fun h => absurd h (by decide))
  refine mw_iload_n hX dL_act_107 rfl rfl ?_
  refine mw_bp hX (nI 7) dL_act_108 rfl ?_
  refine mw_icmp_ne hX (tgt := 121) dL_act_110 (by decide) (fun _ => ?_) (fun h => absurd h (by decide))
  refine mw_iload_n hX dL_act_121 rfl rfl ?_
  refine mw_bp hX (nI 8) dL_act_122 rfl ?_
  refine mw_icmp_ne hX (tgt := 136) dL_act_124 (by decide) (fun _ => ?_) (fun h => absurd h (by decide))
  refine mw_iload_n hX dL_act_136 rfl rfl ?_
  refine mw_bp hX (nI 9) dL_act_137 rfl ?_
  refine mw_icmp_ne hX (tgt := 153) dL_act_139 (by decide) (fun _ => ?_) (fun h => absurd h (by decide))
  refine mw_iload_n hX dL_act_153 rfl rfl ?_
  refine mw_bp hX (nI 10) dL_act_154 rfl ?_
  refine mw_icmp_ne hX (tgt := 167) dL_act_156 (by decide) (fun _ => ?_) (fun h => absurd h (by decide))
  refine mw_iload_n hX dL_act_167 rfl rfl ?_
  refine mw_bp hX (nI 11) dL_act_168 rfl ?_
  refine mw_icmp_ne hX (tgt := 181) dL_act_170 (by decide) (fun _ => ?_) (fun h => absurd h (by decide))
  refine mw_iload_n hX dL_act_181 rfl rfl ?_
  refine mw_bp hX (nI 12) dL_act_182 rfl ?_
  refine mw_icmp_ne hX (tgt := 195) dL_act_184 (by decide) (fun _ => ?_) (fun h => absurd h (by decide))
  refine mw_iload_n hX dL_act_195 rfl rfl ?_
  refine mw_bp hX (nI 13) dL_act_196 rfl ?_
  refine mw_icmp_ne hX (tgt := 209) dL_act_198 (by decide) (fun _ => ?_) (fun h => absurd h (by decide))
  refine mw_iload_n hX dL_act_209 rfl rfl ?_
  refine mw_bp hX (nI 14) dL_act_210 rfl ?_
  refine mw_icmp_ne hX (tgt := 223) dL_act_212 (by decide) (fun _ => ?_) (fun h => absurd h (by decide))
  refine mw_iload_n hX dL_act_223 rfl rfl ?_
  refine mw_bp hX (nI 15) dL_act_224 rfl ?_
  refine mw_icmp_ne hX (tgt := 237) dL_act_226 (by decide) (fun h => absurd h (by decide)) (fun _ => ?_)
  refine mw_aload_n hX dL_act_229 rfl rfl ?_
  refine mw_iload_n hX dL_act_230 rfl rfl ?_
  refine mw_cVC hX [_] ws_L_64 dL_act_231 hc (mw_Yl (by decide)) mw_YW (by decide) rfl (by omega) (by omega) (by omega) (Nat.le_of_ble_eq_true rfl) [] ((tableOf [(0, 299, 300, 13)]).head (by decide)) (tableOf [(0, 299, 306, 82)]) (hT.trans rfl) (fun _ h => absurd h List.not_mem_nil) (by decide) (by decide) wk_13 (Or.inl rfl) (hp2 := 300) (i := 6) (wd := 2) rfl (Nat.le_of_ble_eq_true rfl) (Or.inr ⟨dL_act_300, rfl⟩) ?_
  dsimp only [List.set]
  refine mw_sp hX (-8002) dL_act_302 rfl ?_
  exact mw_ireturn hX hE dL_act_305 rfl (by omega) (by omega)
set_option maxRecDepth 20000 in
theorem w_energyX (l : Launch) (v1 v2 v3 v4 : Int32) (d0 mc ms : Nat) (hd : d0 < 13) (hmc : mc ≤ 4) (hms : ms ≤ 24) {I : mw_I} {L : mw_L} (hc : mw_CT l yX1_energy (.code yX1_energy cX1_energy 2 (some .int)) d0 mc ms [.ref 0, .int v1] (mw_Y0, I, L) (.inr "java/lang/IllegalArgumentException")) : mw_CT l yL_act (.codeWith yL_act cL_act 7 (some .int) [(0, 299, 300, 13), (0, 299, 306, 82)]) 13 4 24 [.ref 0, .int (nI 16), .int v1, .int v2, .int v3, .int v4] (mw_Y0, I, L) (.inl (some (.int (-8002)), mw_Y0, I, L)) := by
  refine mw_enterH RL rfl (by decide +kernel) (mw_cat rfl) (Nat.le_of_ble_eq_true rfl) (fun X hX hl hE hT => ?_)
  subst hl
  show mw_G X 0 [some (.ref 0), some (.int (nI 16)), some (.int v1), some (.int v2), some (.int v3), some (.int v4), none] [] mw_Y0 I L 0 0
  refine mw_iload_n hX dL_act_0 rfl rfl ?_
  refine mw_if_ne hX (tgt := 15) dL_act_1 (by decide) (fun _ => ?_) (fun h => absurd h (by decide))
  refine mw_iload_n hX dL_act_15 rfl rfl ?_
  refine mw_ic hX (nI 1) dL_act_16 rfl ?_
  refine mw_icmp_ne hX (tgt := 29) dL_act_17 (by decide) (fun _ => ?_) (fun h => absurd h (by decide))
  refine mw_iload_n hX dL_act_29 rfl rfl ?_
  refine mw_ic hX (nI 2) dL_act_30 rfl ?_
  refine mw_icmp_ne hX (tgt := 45) dL_act_31 (by decide) (fun _ => ?_) (fun h => absurd h (by decide))
  refine mw_iload_n hX dL_act_45 rfl rfl ?_
  refine mw_ic hX (nI 3) dL_act_46 rfl ?_
  refine mw_icmp_ne hX (tgt := 63) dL_act_47 (by decide) (fun _ => ?_) (fun h => absurd h (by decide))
  refine mw_iload_n hX dL_act_63 rfl rfl ?_
  refine mw_ic hX (nI 4) dL_act_64 rfl ?_
  refine mw_icmp_ne hX (tgt := 76) dL_act_65 (by decide) (fun _ => ?_) (fun h => absurd h (by decide))
  refine mw_iload_n hX dL_act_76 rfl rfl ?_
  refine mw_ic hX (nI 5) dL_act_77 rfl ?_
  refine mw_icmp_ne hX (tgt := 92) dL_act_78 (by decide) (fun _ => ?_) (fun h => absurd h (by decide))
  refine mw_iload_n hX dL_act_92 rfl rfl ?_
  refine mw_bp hX (nI 6) dL_act_93 rfl ?_
  refine mw_icmp_ne hX (tgt := 107) dL_act_95 (by decide) (fun _ => ?_) (fun h => absurd h (by decide))
  refine mw_iload_n hX dL_act_107 rfl rfl ?_
  refine mw_bp hX (nI 7) dL_act_108 rfl ?_
  refine mw_icmp_ne hX (tgt := 121) dL_act_110 (by decide) (fun _ => ?_) (fun h => absurd h (by decide))
  refine mw_iload_n hX dL_act_121 rfl rfl ?_
  refine mw_bp hX (nI 8) dL_act_122 rfl ?_
  refine mw_icmp_ne hX (tgt := 136) dL_act_124 (by decide) (fun _ => ?_) (fun h => absurd h (by decide))
  refine mw_iload_n hX dL_act_136 rfl rfl ?_
  refine mw_bp hX (nI 9) dL_act_137 rfl ?_
  refine mw_icmp_ne hX (tgt := 153) dL_act_139 (by decide) (fun _ => ?_) (fun h => absurd h (by decide))
  refine mw_iload_n hX dL_act_153 rfl rfl ?_
  refine mw_bp hX (nI 10) dL_act_154 rfl ?_
  refine mw_icmp_ne hX (tgt := 167) dL_act_156 (by decide) (fun _ => ?_) (fun h => absurd h (by decide))
  refine mw_iload_n hX dL_act_167 rfl rfl ?_
  refine mw_bp hX (nI 11) dL_act_168 rfl ?_
  refine mw_icmp_ne hX (tgt := 181) dL_act_170 (by decide) (fun _ => ?_) (fun h => absurd h (by decide))
  refine mw_iload_n hX dL_act_181 rfl rfl ?_
  refine mw_bp hX (nI 12) dL_act_182 rfl ?_
  refine mw_icmp_ne hX (tgt := 195) dL_act_184 (by decide) (fun _ => ?_) (fun h => absurd h (by decide))
  refine mw_iload_n hX dL_act_195 rfl rfl ?_
  refine mw_bp hX (nI 13) dL_act_196 rfl ?_
  refine mw_icmp_ne hX (tgt := 209) dL_act_198 (by decide) (fun _ => ?_) (fun h => absurd h (by decide))
  refine mw_iload_n hX dL_act_209 rfl rfl ?_
  refine mw_bp hX (nI 14) dL_act_210 rfl ?_
  refine mw_icmp_ne hX (tgt := 223) dL_act_212 (by decide) (fun _ => ?_) (fun h => absurd h (by decide))
  refine mw_iload_n hX dL_act_223 rfl rfl ?_
  refine mw_bp hX (nI 15) dL_act_224 rfl ?_
  refine mw_icmp_ne hX (tgt := 237) dL_act_226 (by decide) (fun _ => ?_) (fun h => absurd h (by decide))
  refine mw_iload_n hX dL_act_237 rfl rfl ?_
  refine mw_bp hX (nI 16) dL_act_238 rfl ?_
  refine mw_icmp_ne hX (tgt := 251) dL_act_240 (by decide) (fun h => absurd h (by decide)) (fun _ => ?_)
  refine mw_aload_n hX dL_act_243 rfl rfl ?_
  refine mw_iload_n hX dL_act_244 rfl rfl ?_
  refine mw_cVC hX [_] ws_L_67 dL_act_245 hc (mw_Yl (by decide)) mw_YW (by decide) rfl (by omega) (by omega) (by omega) (Nat.le_of_ble_eq_true rfl) [] ((tableOf [(0, 299, 300, 13)]).head (by decide)) (tableOf [(0, 299, 306, 82)]) (hT.trans rfl) (fun _ h => absurd h List.not_mem_nil) (by decide) (by decide) wk_13 (Or.inl rfl) (hp2 := 300) (i := 6) (wd := 2) rfl (Nat.le_of_ble_eq_true rfl) (Or.inr ⟨dL_act_300, rfl⟩) ?_
  dsimp only [List.set]
  refine mw_sp hX (-8002) dL_act_302 rfl ?_
  exact mw_ireturn hX hE dL_act_305 rfl (by omega) (by omega)
set_option maxRecDepth 20000 in
theorem w_mixX (l : Launch) (v1 v2 v3 v4 : Int32) (d0 mc ms : Nat) (hd : d0 < 13) (hmc : mc ≤ 4) (hms : ms ≤ 24) {I : mw_I} {L : mw_L} (hc : mw_CT l yX1_mix (.code yX1_mix cX1_mix 3 (some .int)) d0 mc ms [.ref 0, .int v1, .int v2] (mw_Y0, I, L) (.inr "java/lang/IllegalArgumentException")) : mw_CT l yL_act (.codeWith yL_act cL_act 7 (some .int) [(0, 299, 300, 13), (0, 299, 306, 82)]) 13 4 24 [.ref 0, .int (nI 17), .int v1, .int v2, .int v3, .int v4] (mw_Y0, I, L) (.inl (some (.int (-8002)), mw_Y0, I, L)) := by
  refine mw_enterH RL rfl (by decide +kernel) (mw_cat rfl) (Nat.le_of_ble_eq_true rfl) (fun X hX hl hE hT => ?_)
  subst hl
  show mw_G X 0 [some (.ref 0), some (.int (nI 17)), some (.int v1), some (.int v2), some (.int v3), some (.int v4), none] [] mw_Y0 I L 0 0
  refine mw_iload_n hX dL_act_0 rfl rfl ?_
  refine mw_if_ne hX (tgt := 15) dL_act_1 (by decide) (fun _ => ?_) (fun h => absurd h (by decide))
  refine mw_iload_n hX dL_act_15 rfl rfl ?_
  refine mw_ic hX (nI 1) dL_act_16 rfl ?_
  refine mw_icmp_ne hX (tgt := 29) dL_act_17 (by decide) (fun _ => ?_) (fun h => absurd h (by decide))
  refine mw_iload_n hX dL_act_29 rfl rfl ?_
  refine mw_ic hX (nI 2) dL_act_30 rfl ?_
  refine mw_icmp_ne hX (tgt := 45) dL_act_31 (by decide) (fun _ => ?_) (fun h => absurd h (by decide))
  refine mw_iload_n hX dL_act_45 rfl rfl ?_
  refine mw_ic hX (nI 3) dL_act_46 rfl ?_
  refine mw_icmp_ne hX (tgt := 63) dL_act_47 (by decide) (fun _ => ?_) (fun h => absurd h (by decide))
  refine mw_iload_n hX dL_act_63 rfl rfl ?_
  refine mw_ic hX (nI 4) dL_act_64 rfl ?_
  refine mw_icmp_ne hX (tgt := 76) dL_act_65 (by decide) (fun _ => ?_) (fun h => absurd h (by decide))
  refine mw_iload_n hX dL_act_76 rfl rfl ?_
  refine mw_ic hX (nI 5) dL_act_77 rfl ?_
  refine mw_icmp_ne hX (tgt := 92) dL_act_78 (by decide) (fun _ => ?_) (fun h => absurd h (by decide))
  refine mw_iload_n hX dL_act_92 rfl rfl ?_
  refine mw_bp hX (nI 6) dL_act_93 rfl ?_
  refine mw_icmp_ne hX (tgt := 107) dL_act_95 (by decide) (fun _ => ?_) (fun h => absurd h (by decide))
  refine mw_iload_n hX dL_act_107 rfl rfl ?_
  refine mw_bp hX (nI 7) dL_act_108 rfl ?_
  refine mw_icmp_ne hX (tgt := 121) dL_act_110 (by decide) (fun _ => ?_) (fun h => absurd h (by decide))
  refine mw_iload_n hX dL_act_121 rfl rfl ?_
  refine mw_bp hX (nI 8) dL_act_122 rfl ?_
  refine mw_icmp_ne hX (tgt := 136) dL_act_124 (by decide) (fun _ => ?_) (fun h => absurd h (by decide))
  refine mw_iload_n hX dL_act_136 rfl rfl ?_
  refine mw_bp hX (nI 9) dL_act_137 rfl ?_
  refine mw_icmp_ne hX (tgt := 153) dL_act_139 (by decide) (fun _ => ?_) (fun h => absurd h (by decide))
  refine mw_iload_n hX dL_act_153 rfl rfl ?_
  refine mw_bp hX (nI 10) dL_act_154 rfl ?_
  refine mw_icmp_ne hX (tgt := 167) dL_act_156 (by decide) (fun _ => ?_) (fun h => absurd h (by decide))
  refine mw_iload_n hX dL_act_167 rfl rfl ?_
  refine mw_bp hX (nI 11) dL_act_168 rfl ?_
  refine mw_icmp_ne hX (tgt := 181) dL_act_170 (by decide) (fun _ => ?_) (fun h => absurd h (by decide))
  refine mw_iload_n hX dL_act_181 rfl rfl ?_
  refine mw_bp hX (nI 12) dL_act_182 rfl ?_
  refine mw_icmp_ne hX (tgt := 195) dL_act_184 (by decide) (fun _ => ?_) (fun h => absurd h (by decide))
  refine mw_iload_n hX dL_act_195 rfl rfl ?_
  refine mw_bp hX (nI 13) dL_act_196 rfl ?_
  refine mw_icmp_ne hX (tgt := 209) dL_act_198 (by decide) (fun _ => ?_) (fun h => absurd h (by decide))
  refine mw_iload_n hX dL_act_209 rfl rfl ?_
  refine mw_bp hX (nI 14) dL_act_210 rfl ?_
  refine mw_icmp_ne hX (tgt := 223) dL_act_212 (by decide) (fun _ => ?_) (fun h => absurd h (by decide))
  refine mw_iload_n hX dL_act_223 rfl rfl ?_
  refine mw_bp hX (nI 15) dL_act_224 rfl ?_
  refine mw_icmp_ne hX (tgt := 237) dL_act_226 (by decide) (fun _ => ?_) (fun h => absurd h (by decide))
  refine mw_iload_n hX dL_act_237 rfl rfl ?_
  refine mw_bp hX (nI 16) dL_act_238 rfl ?_
  refine mw_icmp_ne hX (tgt := 251) dL_act_240 (by decide) (fun _ => ?_) (fun h => absurd h (by decide))
  refine mw_iload_n hX dL_act_251 rfl rfl ?_
  refine mw_bp hX (nI 17) dL_act_252 rfl ?_
  refine mw_icmp_ne hX (tgt := 266) dL_act_254 (by decide) (fun h => absurd h (by decide)) (fun _ => ?_)
  refine mw_aload_n hX dL_act_257 rfl rfl ?_
  refine mw_iload_n hX dL_act_258 rfl rfl ?_
  refine mw_iload_n hX dL_act_259 rfl rfl ?_
  refine mw_cVC hX [_, _] ws_L_70 dL_act_260 hc (mw_Yl (by decide)) mw_YW (by decide) rfl (by omega) (by omega) (by omega) (Nat.le_of_ble_eq_true rfl) [] ((tableOf [(0, 299, 300, 13)]).head (by decide)) (tableOf [(0, 299, 306, 82)]) (hT.trans rfl) (fun _ h => absurd h List.not_mem_nil) (by decide) (by decide) wk_13 (Or.inl rfl) (hp2 := 300) (i := 6) (wd := 2) rfl (Nat.le_of_ble_eq_true rfl) (Or.inr ⟨dL_act_300, rfl⟩) ?_
  dsimp only [List.set]
  refine mw_sp hX (-8002) dL_act_302 rfl ?_
  exact mw_ireturn hX hE dL_act_305 rfl (by omega) (by omega)
set_option maxRecDepth 20000 in
theorem w_bestEnergyX (l : Launch) (v1 v2 v3 v4 : Int32) (d0 mc ms : Nat) (hd : d0 < 13) (hmc : mc ≤ 4) (hms : ms ≤ 24) {I : mw_I} {L : mw_L} (hc : mw_CT l yX1_bestEnergy (.code yX1_bestEnergy cX1_bestEnergy 2 (some .int)) d0 mc ms [.ref 0, .int v1] (mw_Y0, I, L) (.inr "java/lang/IllegalArgumentException")) : mw_CT l yL_act (.codeWith yL_act cL_act 7 (some .int) [(0, 299, 300, 13), (0, 299, 306, 82)]) 13 4 24 [.ref 0, .int (nI 18), .int v1, .int v2, .int v3, .int v4] (mw_Y0, I, L) (.inl (some (.int (-8002)), mw_Y0, I, L)) := by
  refine mw_enterH RL rfl (by decide +kernel) (mw_cat rfl) (Nat.le_of_ble_eq_true rfl) (fun X hX hl hE hT => ?_)
  subst hl
  show mw_G X 0 [some (.ref 0), some (.int (nI 18)), some (.int v1), some (.int v2), some (.int v3), some (.int v4), none] [] mw_Y0 I L 0 0
  refine mw_iload_n hX dL_act_0 rfl rfl ?_
  refine mw_if_ne hX (tgt := 15) dL_act_1 (by decide) (fun _ => ?_) (fun h => absurd h (by decide))
  refine mw_iload_n hX dL_act_15 rfl rfl ?_
  refine mw_ic hX (nI 1) dL_act_16 rfl ?_
  refine mw_icmp_ne hX (tgt := 29) dL_act_17 (by decide) (fun _ => ?_) (fun h => absurd h (by decide))
  refine mw_iload_n hX dL_act_29 rfl rfl ?_
  refine mw_ic hX (nI 2) dL_act_30 rfl ?_
  refine mw_icmp_ne hX (tgt := 45) dL_act_31 (by decide) (fun _ => ?_) (fun h => absurd h (by decide))
  refine mw_iload_n hX dL_act_45 rfl rfl ?_
  refine mw_ic hX (nI 3) dL_act_46 rfl ?_
  refine mw_icmp_ne hX (tgt := 63) dL_act_47 (by decide) (fun _ => ?_) (fun h => absurd h (by decide))
  refine mw_iload_n hX dL_act_63 rfl rfl ?_
  refine mw_ic hX (nI 4) dL_act_64 rfl ?_
  refine mw_icmp_ne hX (tgt := 76) dL_act_65 (by decide) (fun _ => ?_) (fun h => absurd h (by decide))
  refine mw_iload_n hX dL_act_76 rfl rfl ?_
  refine mw_ic hX (nI 5) dL_act_77 rfl ?_
  refine mw_icmp_ne hX (tgt := 92) dL_act_78 (by decide) (fun _ => ?_) (fun h => absurd h (by decide))
  refine mw_iload_n hX dL_act_92 rfl rfl ?_
  refine mw_bp hX (nI 6) dL_act_93 rfl ?_
  refine mw_icmp_ne hX (tgt := 107) dL_act_95 (by decide) (fun _ => ?_) (fun h => absurd h (by decide))
  refine mw_iload_n hX dL_act_107 rfl rfl ?_
  refine mw_bp hX (nI 7) dL_act_108 rfl ?_
  refine mw_icmp_ne hX (tgt := 121) dL_act_110 (by decide) (fun _ => ?_) (fun h => absurd h (by decide))
  refine mw_iload_n hX dL_act_121 rfl rfl ?_
  refine mw_bp hX (nI 8) dL_act_122 rfl ?_
  refine mw_icmp_ne hX (tgt := 136) dL_act_124 (by decide) (fun _ => ?_) (fun h => absurd h (by decide))
  refine mw_iload_n hX dL_act_136 rfl rfl ?_
  refine mw_bp hX (nI 9) dL_act_137 rfl ?_
  refine mw_icmp_ne hX (tgt := 153) dL_act_139 (by decide) (fun _ => ?_) (fun h => absurd h (by decide))
  refine mw_iload_n hX dL_act_153 rfl rfl ?_
  refine mw_bp hX (nI 10) dL_act_154 rfl ?_
  refine mw_icmp_ne hX (tgt := 167) dL_act_156 (by decide) (fun _ => ?_) (fun h => absurd h (by decide))
  refine mw_iload_n hX dL_act_167 rfl rfl ?_
  refine mw_bp hX (nI 11) dL_act_168 rfl ?_
  refine mw_icmp_ne hX (tgt := 181) dL_act_170 (by decide) (fun _ => ?_) (fun h => absurd h (by decide))
  refine mw_iload_n hX dL_act_181 rfl rfl ?_
  refine mw_bp hX (nI 12) dL_act_182 rfl ?_
  refine mw_icmp_ne hX (tgt := 195) dL_act_184 (by decide) (fun _ => ?_) (fun h => absurd h (by decide))
  refine mw_iload_n hX dL_act_195 rfl rfl ?_
  refine mw_bp hX (nI 13) dL_act_196 rfl ?_
  refine mw_icmp_ne hX (tgt := 209) dL_act_198 (by decide) (fun _ => ?_) (fun h => absurd h (by decide))
  refine mw_iload_n hX dL_act_209 rfl rfl ?_
  refine mw_bp hX (nI 14) dL_act_210 rfl ?_
  refine mw_icmp_ne hX (tgt := 223) dL_act_212 (by decide) (fun _ => ?_) (fun h => absurd h (by decide))
  refine mw_iload_n hX dL_act_223 rfl rfl ?_
  refine mw_bp hX (nI 15) dL_act_224 rfl ?_
  refine mw_icmp_ne hX (tgt := 237) dL_act_226 (by decide) (fun _ => ?_) (fun h => absurd h (by decide))
  refine mw_iload_n hX dL_act_237 rfl rfl ?_
  refine mw_bp hX (nI 16) dL_act_238 rfl ?_
  refine mw_icmp_ne hX (tgt := 251) dL_act_240 (by decide) (fun _ => ?_) (fun h => absurd h (by decide))
  refine mw_iload_n hX dL_act_251 rfl rfl ?_
  refine mw_bp hX (nI 17) dL_act_252 rfl ?_
  refine mw_icmp_ne hX (tgt := 266) dL_act_254 (by decide) (fun _ => ?_) (fun h => absurd h (by decide))
  refine mw_iload_n hX dL_act_266 rfl rfl ?_
  refine mw_bp hX (nI 18) dL_act_267 rfl ?_
  refine mw_icmp_ne hX (tgt := 280) dL_act_269 (by decide) (fun h => absurd h (by decide)) (fun _ => ?_)
  refine mw_aload_n hX dL_act_272 rfl rfl ?_
  refine mw_iload_n hX dL_act_273 rfl rfl ?_
  refine mw_cVC hX [_] ws_L_73 dL_act_274 hc (mw_Yl (by decide)) mw_YW (by decide) rfl (by omega) (by omega) (by omega) (Nat.le_of_ble_eq_true rfl) [] ((tableOf [(0, 299, 300, 13)]).head (by decide)) (tableOf [(0, 299, 306, 82)]) (hT.trans rfl) (fun _ h => absurd h List.not_mem_nil) (by decide) (by decide) wk_13 (Or.inl rfl) (hp2 := 300) (i := 6) (wd := 2) rfl (Nat.le_of_ble_eq_true rfl) (Or.inr ⟨dL_act_300, rfl⟩) ?_
  dsimp only [List.set]
  refine mw_sp hX (-8002) dL_act_302 rfl ?_
  exact mw_ireturn hX hE dL_act_305 rfl (by omega) (by omega)
set_option maxRecDepth 20000 in
theorem w_bestEnergyByAllX (l : Launch) (v1 v2 v3 v4 : Int32) (d0 mc ms : Nat) (hd : d0 < 13) (hmc : mc ≤ 4) (hms : ms ≤ 24) {I : mw_I} {L : mw_L} (hc : mw_CT l yX1_bestEnergyByAll (.code yX1_bestEnergyByAll cX1_bestEnergyByAll 2 (some .int)) d0 mc ms [.ref 0, .int v1] (mw_Y0, I, L) (.inr "java/lang/IllegalArgumentException")) : mw_CT l yL_act (.codeWith yL_act cL_act 7 (some .int) [(0, 299, 300, 13), (0, 299, 306, 82)]) 13 4 24 [.ref 0, .int (nI 19), .int v1, .int v2, .int v3, .int v4] (mw_Y0, I, L) (.inl (some (.int (-8002)), mw_Y0, I, L)) := by
  refine mw_enterH RL rfl (by decide +kernel) (mw_cat rfl) (Nat.le_of_ble_eq_true rfl) (fun X hX hl hE hT => ?_)
  subst hl
  show mw_G X 0 [some (.ref 0), some (.int (nI 19)), some (.int v1), some (.int v2), some (.int v3), some (.int v4), none] [] mw_Y0 I L 0 0
  refine mw_iload_n hX dL_act_0 rfl rfl ?_
  refine mw_if_ne hX (tgt := 15) dL_act_1 (by decide) (fun _ => ?_) (fun h => absurd h (by decide))
  refine mw_iload_n hX dL_act_15 rfl rfl ?_
  refine mw_ic hX (nI 1) dL_act_16 rfl ?_
  refine mw_icmp_ne hX (tgt := 29) dL_act_17 (by decide) (fun _ => ?_) (fun h => absurd h (by decide))
  refine mw_iload_n hX dL_act_29 rfl rfl ?_
  refine mw_ic hX (nI 2) dL_act_30 rfl ?_
  refine mw_icmp_ne hX (tgt := 45) dL_act_31 (by decide) (fun _ => ?_) (fun h => absurd h (by decide))
  refine mw_iload_n hX dL_act_45 rfl rfl ?_
  refine mw_ic hX (nI 3) dL_act_46 rfl ?_
  refine mw_icmp_ne hX (tgt := 63) dL_act_47 (by decide) (fun _ => ?_) (fun h => absurd h (by decide))
  refine mw_iload_n hX dL_act_63 rfl rfl ?_
  refine mw_ic hX (nI 4) dL_act_64 rfl ?_
  refine mw_icmp_ne hX (tgt := 76) dL_act_65 (by decide) (fun _ => ?_) (fun h => absurd h (by decide))
  refine mw_iload_n hX dL_act_76 rfl rfl ?_
  refine mw_ic hX (nI 5) dL_act_77 rfl ?_
  refine mw_icmp_ne hX (tgt := 92) dL_act_78 (by decide) (fun _ => ?_) (fun h => absurd h (by decide))
  refine mw_iload_n hX dL_act_92 rfl rfl ?_
  refine mw_bp hX (nI 6) dL_act_93 rfl ?_
  refine mw_icmp_ne hX (tgt := 107) dL_act_95 (by decide) (fun _ => ?_) (fun h => absurd h (by decide))
  refine mw_iload_n hX dL_act_107 rfl rfl ?_
  refine mw_bp hX (nI 7) dL_act_108 rfl ?_
  refine mw_icmp_ne hX (tgt := 121) dL_act_110 (by decide) (fun _ => ?_) (fun h => absurd h (by decide))
  refine mw_iload_n hX dL_act_121 rfl rfl ?_
  refine mw_bp hX (nI 8) dL_act_122 rfl ?_
  refine mw_icmp_ne hX (tgt := 136) dL_act_124 (by decide) (fun _ => ?_) (fun h => absurd h (by decide))
  refine mw_iload_n hX dL_act_136 rfl rfl ?_
  refine mw_bp hX (nI 9) dL_act_137 rfl ?_
  refine mw_icmp_ne hX (tgt := 153) dL_act_139 (by decide) (fun _ => ?_) (fun h => absurd h (by decide))
  refine mw_iload_n hX dL_act_153 rfl rfl ?_
  refine mw_bp hX (nI 10) dL_act_154 rfl ?_
  refine mw_icmp_ne hX (tgt := 167) dL_act_156 (by decide) (fun _ => ?_) (fun h => absurd h (by decide))
  refine mw_iload_n hX dL_act_167 rfl rfl ?_
  refine mw_bp hX (nI 11) dL_act_168 rfl ?_
  refine mw_icmp_ne hX (tgt := 181) dL_act_170 (by decide) (fun _ => ?_) (fun h => absurd h (by decide))
  refine mw_iload_n hX dL_act_181 rfl rfl ?_
  refine mw_bp hX (nI 12) dL_act_182 rfl ?_
  refine mw_icmp_ne hX (tgt := 195) dL_act_184 (by decide) (fun _ => ?_) (fun h => absurd h (by decide))
  refine mw_iload_n hX dL_act_195 rfl rfl ?_
  refine mw_bp hX (nI 13) dL_act_196 rfl ?_
  refine mw_icmp_ne hX (tgt := 209) dL_act_198 (by decide) (fun _ => ?_) (fun h => absurd h (by decide))
  refine mw_iload_n hX dL_act_209 rfl rfl ?_
  refine mw_bp hX (nI 14) dL_act_210 rfl ?_
  refine mw_icmp_ne hX (tgt := 223) dL_act_212 (by decide) (fun _ => ?_) (fun h => absurd h (by decide))
  refine mw_iload_n hX dL_act_223 rfl rfl ?_
  refine mw_bp hX (nI 15) dL_act_224 rfl ?_
  refine mw_icmp_ne hX (tgt := 237) dL_act_226 (by decide) (fun _ => ?_) (fun h => absurd h (by decide))
  refine mw_iload_n hX dL_act_237 rfl rfl ?_
  refine mw_bp hX (nI 16) dL_act_238 rfl ?_
  refine mw_icmp_ne hX (tgt := 251) dL_act_240 (by decide) (fun _ => ?_) (fun h => absurd h (by decide))
  refine mw_iload_n hX dL_act_251 rfl rfl ?_
  refine mw_bp hX (nI 17) dL_act_252 rfl ?_
  refine mw_icmp_ne hX (tgt := 266) dL_act_254 (by decide) (fun _ => ?_) (fun h => absurd h (by decide))
  refine mw_iload_n hX dL_act_266 rfl rfl ?_
  refine mw_bp hX (nI 18) dL_act_267 rfl ?_
  refine mw_icmp_ne hX (tgt := 280) dL_act_269 (by decide) (fun _ => ?_) (fun h => absurd h (by decide))
  refine mw_iload_n hX dL_act_280 rfl rfl ?_
  refine mw_bp hX (nI 19) dL_act_281 rfl ?_
  refine mw_icmp_ne hX (tgt := 294) dL_act_283 (by decide) (fun h => absurd h (by decide)) (fun _ => ?_)
  refine mw_aload_n hX dL_act_286 rfl rfl ?_
  refine mw_iload_n hX dL_act_287 rfl rfl ?_
  refine mw_cVC hX [_] ws_L_76 dL_act_288 hc (mw_Yl (by decide)) mw_YW (by decide) rfl (by omega) (by omega) (by omega) (Nat.le_of_ble_eq_true rfl) [] ((tableOf [(0, 299, 300, 13)]).head (by decide)) (tableOf [(0, 299, 306, 82)]) (hT.trans rfl) (fun _ h => absurd h List.not_mem_nil) (by decide) (by decide) wk_13 (Or.inl rfl) (hp2 := 300) (i := 6) (wd := 2) rfl (Nat.le_of_ble_eq_true rfl) (Or.inr ⟨dL_act_300, rfl⟩) ?_
  dsimp only [List.set]
  refine mw_sp hX (-8002) dL_act_302 rfl ?_
  exact mw_ireturn hX hE dL_act_305 rfl (by omega) (by omega)
set_option maxRecDepth 20000 in
theorem w_bestReleaseX (l : Launch) (v1 v2 v3 v4 : Int32) (d0 mc ms : Nat) (hd : d0 < 13) (hmc : mc ≤ 4) (hms : ms ≤ 24) {I : mw_I} {L : mw_L} (hc : mw_CT l yX1_bestRelease (.code yX1_bestRelease cX1_bestRelease 2 (some .int)) d0 mc ms [.ref 0, .int v1] (mw_Y0, I, L) (.inr "java/lang/IllegalArgumentException")) : mw_CT l yL_act (.codeWith yL_act cL_act 7 (some .int) [(0, 299, 300, 13), (0, 299, 306, 82)]) 13 4 24 [.ref 0, .int (nI 20), .int v1, .int v2, .int v3, .int v4] (mw_Y0, I, L) (.inl (some (.int (-8002)), mw_Y0, I, L)) := by
  refine mw_enterH RL rfl (by decide +kernel) (mw_cat rfl) (Nat.le_of_ble_eq_true rfl) (fun X hX hl hE hT => ?_)
  subst hl
  show mw_G X 0 [some (.ref 0), some (.int (nI 20)), some (.int v1), some (.int v2), some (.int v3), some (.int v4), none] [] mw_Y0 I L 0 0
  refine mw_iload_n hX dL_act_0 rfl rfl ?_
  refine mw_if_ne hX (tgt := 15) dL_act_1 (by decide) (fun _ => ?_) (fun h => absurd h (by decide))
  refine mw_iload_n hX dL_act_15 rfl rfl ?_
  refine mw_ic hX (nI 1) dL_act_16 rfl ?_
  refine mw_icmp_ne hX (tgt := 29) dL_act_17 (by decide) (fun _ => ?_) (fun h => absurd h (by decide))
  refine mw_iload_n hX dL_act_29 rfl rfl ?_
  refine mw_ic hX (nI 2) dL_act_30 rfl ?_
  refine mw_icmp_ne hX (tgt := 45) dL_act_31 (by decide) (fun _ => ?_) (fun h => absurd h (by decide))
  refine mw_iload_n hX dL_act_45 rfl rfl ?_
  refine mw_ic hX (nI 3) dL_act_46 rfl ?_
  refine mw_icmp_ne hX (tgt := 63) dL_act_47 (by decide) (fun _ => ?_) (fun h => absurd h (by decide))
  refine mw_iload_n hX dL_act_63 rfl rfl ?_
  refine mw_ic hX (nI 4) dL_act_64 rfl ?_
  refine mw_icmp_ne hX (tgt := 76) dL_act_65 (by decide) (fun _ => ?_) (fun h => absurd h (by decide))
  refine mw_iload_n hX dL_act_76 rfl rfl ?_
  refine mw_ic hX (nI 5) dL_act_77 rfl ?_
  refine mw_icmp_ne hX (tgt := 92) dL_act_78 (by decide) (fun _ => ?_) (fun h => absurd h (by decide))
  refine mw_iload_n hX dL_act_92 rfl rfl ?_
  refine mw_bp hX (nI 6) dL_act_93 rfl ?_
  refine mw_icmp_ne hX (tgt := 107) dL_act_95 (by decide) (fun _ => ?_) (fun h => absurd h (by decide))
  refine mw_iload_n hX dL_act_107 rfl rfl ?_
  refine mw_bp hX (nI 7) dL_act_108 rfl ?_
  refine mw_icmp_ne hX (tgt := 121) dL_act_110 (by decide) (fun _ => ?_) (fun h => absurd h (by decide))
  refine mw_iload_n hX dL_act_121 rfl rfl ?_
  refine mw_bp hX (nI 8) dL_act_122 rfl ?_
  refine mw_icmp_ne hX (tgt := 136) dL_act_124 (by decide) (fun _ => ?_) (fun h => absurd h (by decide))
  refine mw_iload_n hX dL_act_136 rfl rfl ?_
  refine mw_bp hX (nI 9) dL_act_137 rfl ?_
  refine mw_icmp_ne hX (tgt := 153) dL_act_139 (by decide) (fun _ => ?_) (fun h => absurd h (by decide))
  refine mw_iload_n hX dL_act_153 rfl rfl ?_
  refine mw_bp hX (nI 10) dL_act_154 rfl ?_
  refine mw_icmp_ne hX (tgt := 167) dL_act_156 (by decide) (fun _ => ?_) (fun h => absurd h (by decide))
  refine mw_iload_n hX dL_act_167 rfl rfl ?_
  refine mw_bp hX (nI 11) dL_act_168 rfl ?_
  refine mw_icmp_ne hX (tgt := 181) dL_act_170 (by decide) (fun _ => ?_) (fun h => absurd h (by decide))
  refine mw_iload_n hX dL_act_181 rfl rfl ?_
  refine mw_bp hX (nI 12) dL_act_182 rfl ?_
  refine mw_icmp_ne hX (tgt := 195) dL_act_184 (by decide) (fun _ => ?_) (fun h => absurd h (by decide))
  refine mw_iload_n hX dL_act_195 rfl rfl ?_
  refine mw_bp hX (nI 13) dL_act_196 rfl ?_
  refine mw_icmp_ne hX (tgt := 209) dL_act_198 (by decide) (fun _ => ?_) (fun h => absurd h (by decide))
  refine mw_iload_n hX dL_act_209 rfl rfl ?_
  refine mw_bp hX (nI 14) dL_act_210 rfl ?_
  refine mw_icmp_ne hX (tgt := 223) dL_act_212 (by decide) (fun _ => ?_) (fun h => absurd h (by decide))
  refine mw_iload_n hX dL_act_223 rfl rfl ?_
  refine mw_bp hX (nI 15) dL_act_224 rfl ?_
  refine mw_icmp_ne hX (tgt := 237) dL_act_226 (by decide) (fun _ => ?_) (fun h => absurd h (by decide))
  refine mw_iload_n hX dL_act_237 rfl rfl ?_
  refine mw_bp hX (nI 16) dL_act_238 rfl ?_
  refine mw_icmp_ne hX (tgt := 251) dL_act_240 (by decide) (fun _ => ?_) (fun h => absurd h (by decide))
  refine mw_iload_n hX dL_act_251 rfl rfl ?_
  refine mw_bp hX (nI 17) dL_act_252 rfl ?_
  refine mw_icmp_ne hX (tgt := 266) dL_act_254 (by decide) (fun _ => ?_) (fun h => absurd h (by decide))
  refine mw_iload_n hX dL_act_266 rfl rfl ?_
  refine mw_bp hX (nI 18) dL_act_267 rfl ?_
  refine mw_icmp_ne hX (tgt := 280) dL_act_269 (by decide) (fun _ => ?_) (fun h => absurd h (by decide))
  refine mw_iload_n hX dL_act_280 rfl rfl ?_
  refine mw_bp hX (nI 19) dL_act_281 rfl ?_
  refine mw_icmp_ne hX (tgt := 294) dL_act_283 (by decide) (fun _ => ?_) (fun h => absurd h (by decide))
  refine mw_aload_n hX dL_act_294 rfl rfl ?_
  refine mw_iload_n hX dL_act_295 rfl rfl ?_
  refine mw_cVC hX [_] ws_L_79 dL_act_296 hc (mw_Yl (by decide)) mw_YW (by decide) rfl (by omega) (by omega) (by omega) (Nat.le_of_ble_eq_true rfl) [] ((tableOf [(0, 299, 300, 13)]).head (by decide)) (tableOf [(0, 299, 306, 82)]) (hT.trans rfl) (fun _ h => absurd h List.not_mem_nil) (by decide) (by decide) wk_13 (Or.inl rfl) (hp2 := 300) (i := 6) (wd := 2) rfl (Nat.le_of_ble_eq_true rfl) (Or.inr ⟨dL_act_300, rfl⟩) ?_
  dsimp only [List.set]
  refine mw_sp hX (-8002) dL_act_302 rfl ?_
  exact mw_ireturn hX hE dL_act_305 rfl (by omega) (by omega)
set_option maxRecDepth 20000 in
theorem w_runS (l : Launch) (v1 v2 v3 v4 : Int32) (d0 mc ms : Nat) (hd : d0 < 13) (hmc : mc ≤ 4) (hms : ms ≤ 24) {I : mw_I} {L : mw_L} (hc : mw_CT l yX1_run (.code yX1_run cX1_run 4 (some .int)) d0 mc ms [.ref 0, .int v1] (mw_Y0, I, L) (.inr "java/lang/IllegalStateException")) : mw_CT l yL_act (.codeWith yL_act cL_act 7 (some .int) [(0, 299, 300, 13), (0, 299, 306, 82)]) 13 4 24 [.ref 0, .int (nI 4), .int v1, .int v2, .int v3, .int v4] (mw_Y0, I, L) (.inl (some (.int (-8003)), mw_Y0, I, L)) := by
  refine mw_enterH RL rfl (by decide +kernel) (mw_cat rfl) (Nat.le_of_ble_eq_true rfl) (fun X hX hl hE hT => ?_)
  subst hl
  show mw_G X 0 [some (.ref 0), some (.int (nI 4)), some (.int v1), some (.int v2), some (.int v3), some (.int v4), none] [] mw_Y0 I L 0 0
  refine mw_iload_n hX dL_act_0 rfl rfl ?_
  refine mw_if_ne hX (tgt := 15) dL_act_1 (by decide) (fun _ => ?_) (fun h => absurd h (by decide))
  refine mw_iload_n hX dL_act_15 rfl rfl ?_
  refine mw_ic hX (nI 1) dL_act_16 rfl ?_
  refine mw_icmp_ne hX (tgt := 29) dL_act_17 (by decide) (fun _ => ?_) (fun h => absurd h (by decide))
  refine mw_iload_n hX dL_act_29 rfl rfl ?_
  refine mw_ic hX (nI 2) dL_act_30 rfl ?_
  refine mw_icmp_ne hX (tgt := 45) dL_act_31 (by decide) (fun _ => ?_) (fun h => absurd h (by decide))
  refine mw_iload_n hX dL_act_45 rfl rfl ?_
  refine mw_ic hX (nI 3) dL_act_46 rfl ?_
  refine mw_icmp_ne hX (tgt := 63) dL_act_47 (by decide) (fun _ => ?_) (fun h => absurd h (by decide))
  refine mw_iload_n hX dL_act_63 rfl rfl ?_
  refine mw_ic hX (nI 4) dL_act_64 rfl ?_
  refine mw_icmp_ne hX (tgt := 76) dL_act_65 (by decide) (fun h => absurd h (by decide)) (fun _ => ?_)
  refine mw_aload_n hX dL_act_68 rfl rfl ?_
  refine mw_iload_n hX dL_act_69 rfl rfl ?_
  refine mw_cVC hX [_] ws_L_30 dL_act_70 hc (mw_Yl (by decide)) mw_YW (by decide) rfl (by omega) (by omega) (by omega) (Nat.le_of_ble_eq_true rfl) (tableOf [(0, 299, 300, 13)]) ((tableOf [(0, 299, 306, 82)]).head (by decide)) [] (hT.trans rfl) (fun z h => by rcases List.mem_singleton.mp h with rfl; exact ⟨by decide, _, wk_13, Or.inr ⟨rfl, rfl⟩⟩) (by decide) (by decide) wk_82 (Or.inr rfl) (hp2 := 306) (i := 6) (wd := 2) rfl (Nat.le_of_ble_eq_true rfl) (Or.inr ⟨dL_act_306, rfl⟩) ?_
  dsimp only [List.set]
  refine mw_sp hX (-8003) dL_act_308 rfl ?_
  exact mw_ireturn hX hE dL_act_311 rfl (by omega) (by omega)
set_option maxRecDepth 20000 in
theorem w_lendS (l : Launch) (v1 v2 v3 v4 : Int32) (d0 mc ms : Nat) (hd : d0 < 13) (hmc : mc ≤ 4) (hms : ms ≤ 24) {I : mw_I} {L : mw_L} (hc : mw_CT l yX1_lend (.code yX1_lend cX1_lend 6 (some .int)) d0 mc ms [.ref 0, .int v1, .int v2, .int v3] (mw_Y0, I, L) (.inr "java/lang/IllegalStateException")) : mw_CT l yL_act (.codeWith yL_act cL_act 7 (some .int) [(0, 299, 300, 13), (0, 299, 306, 82)]) 13 4 24 [.ref 0, .int (nI 5), .int v1, .int v2, .int v3, .int v4] (mw_Y0, I, L) (.inl (some (.int (-8003)), mw_Y0, I, L)) := by
  refine mw_enterH RL rfl (by decide +kernel) (mw_cat rfl) (Nat.le_of_ble_eq_true rfl) (fun X hX hl hE hT => ?_)
  subst hl
  show mw_G X 0 [some (.ref 0), some (.int (nI 5)), some (.int v1), some (.int v2), some (.int v3), some (.int v4), none] [] mw_Y0 I L 0 0
  refine mw_iload_n hX dL_act_0 rfl rfl ?_
  refine mw_if_ne hX (tgt := 15) dL_act_1 (by decide) (fun _ => ?_) (fun h => absurd h (by decide))
  refine mw_iload_n hX dL_act_15 rfl rfl ?_
  refine mw_ic hX (nI 1) dL_act_16 rfl ?_
  refine mw_icmp_ne hX (tgt := 29) dL_act_17 (by decide) (fun _ => ?_) (fun h => absurd h (by decide))
  refine mw_iload_n hX dL_act_29 rfl rfl ?_
  refine mw_ic hX (nI 2) dL_act_30 rfl ?_
  refine mw_icmp_ne hX (tgt := 45) dL_act_31 (by decide) (fun _ => ?_) (fun h => absurd h (by decide))
  refine mw_iload_n hX dL_act_45 rfl rfl ?_
  refine mw_ic hX (nI 3) dL_act_46 rfl ?_
  refine mw_icmp_ne hX (tgt := 63) dL_act_47 (by decide) (fun _ => ?_) (fun h => absurd h (by decide))
  refine mw_iload_n hX dL_act_63 rfl rfl ?_
  refine mw_ic hX (nI 4) dL_act_64 rfl ?_
  refine mw_icmp_ne hX (tgt := 76) dL_act_65 (by decide) (fun _ => ?_) (fun h => absurd h (by decide))
  refine mw_iload_n hX dL_act_76 rfl rfl ?_
  refine mw_ic hX (nI 5) dL_act_77 rfl ?_
  refine mw_icmp_ne hX (tgt := 92) dL_act_78 (by decide) (fun h => absurd h (by decide)) (fun _ => ?_)
  refine mw_aload_n hX dL_act_81 rfl rfl ?_
  refine mw_iload_n hX dL_act_82 rfl rfl ?_
  refine mw_iload_n hX dL_act_83 rfl rfl ?_
  refine mw_iload hX dL_act_84 rfl ?_
  refine mw_cVC hX [_, _, _] ws_L_34 dL_act_86 hc (mw_Yl (by decide)) mw_YW (by decide) rfl (by omega) (by omega) (by omega) (Nat.le_of_ble_eq_true rfl) (tableOf [(0, 299, 300, 13)]) ((tableOf [(0, 299, 306, 82)]).head (by decide)) [] (hT.trans rfl) (fun z h => by rcases List.mem_singleton.mp h with rfl; exact ⟨by decide, _, wk_13, Or.inr ⟨rfl, rfl⟩⟩) (by decide) (by decide) wk_82 (Or.inr rfl) (hp2 := 306) (i := 6) (wd := 2) rfl (Nat.le_of_ble_eq_true rfl) (Or.inr ⟨dL_act_306, rfl⟩) ?_
  dsimp only [List.set]
  refine mw_sp hX (-8003) dL_act_308 rfl ?_
  exact mw_ireturn hX hE dL_act_311 rfl (by omega) (by omega)
