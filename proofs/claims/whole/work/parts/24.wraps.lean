/-! the law's wrappers: each gives 0, or 1 or 2 where an exception comes (by program: wip/whole/gen24.py) -/
set_option maxRecDepth 20000 in
theorem w_setPond (l : Launch) (v1 v2 v3 v4 : Int32) (d0 mc ms : Nat) (hd : d0 < 13) (hmc : mc ≤ 10) (hms : ms ≤ 60) {I : mw_I} {L : mw_L} {J : mw_I} (hc : mw_CT l yX1_setPond (.code yX1_setPond cX1_setPond 6 none) d0 mc ms [.ref 0, .int v1, .int v2, .int v3, .int v4] (mw_Y0, I, L) (.inl (none, mw_Y0, J, L))) : mw_CT l yL_setPond (.codeWith yL_setPond cL_setPond 6 (some .int) [(0, 9, 12, 13)]) 13 10 60 [.ref 0, .int v1, .int v2, .int v3, .int v4] (mw_Y0, I, L) (.inl (some (.int 0), mw_Y0, J, L)) := by
  refine mw_enterH RL rfl (by decide +kernel) (mw_cat rfl) (Nat.le_of_ble_eq_true rfl) (fun X hX hl hE hT => ?_)
  subst hl
  show mw_G X 0 [some (.ref 0), some (.int v1), some (.int v2), some (.int v3), some (.int v4), none] [] mw_Y0 I L 0 0
  refine mw_aload_n hX dL_setPond_0 rfl rfl ?_
  refine mw_iload_n hX dL_setPond_1 rfl rfl ?_
  refine mw_iload_n hX dL_setPond_2 rfl rfl ?_
  refine mw_iload_n hX dL_setPond_3 rfl rfl ?_
  refine mw_iload hX dL_setPond_4 rfl ?_
  refine mw_cV hX [_, _, _, _] ws_L_7 dL_setPond_6 hc (mw_Yl (by decide)) mw_YW (by decide) rfl (by omega) (by omega) (by omega) (Nat.le_of_ble_eq_true rfl) ?_
  refine mw_goto hX (tgt := 16) dL_setPond_9 (by decide) ?_
  refine mw_ic hX 0 dL_setPond_16 rfl ?_
  exact mw_ireturn hX hE dL_setPond_17 rfl (by omega) (by omega)
set_option maxRecDepth 20000 in
theorem w_setPondX (l : Launch) (v1 v2 v3 v4 : Int32) (d0 mc ms : Nat) (hd : d0 < 13) (hmc : mc ≤ 10) (hms : ms ≤ 60) {I : mw_I} {L : mw_L} (hc : mw_CT l yX1_setPond (.code yX1_setPond cX1_setPond 6 none) d0 mc ms [.ref 0, .int v1, .int v2, .int v3, .int v4] (mw_Y0, I, L) (.inr "java/lang/IllegalArgumentException")) : mw_CT l yL_setPond (.codeWith yL_setPond cL_setPond 6 (some .int) [(0, 9, 12, 13)]) 13 10 60 [.ref 0, .int v1, .int v2, .int v3, .int v4] (mw_Y0, I, L) (.inl (some (.int 1), mw_Y0, I, L)) := by
  refine mw_enterH RL rfl (by decide +kernel) (mw_cat rfl) (Nat.le_of_ble_eq_true rfl) (fun X hX hl hE hT => ?_)
  subst hl
  show mw_G X 0 [some (.ref 0), some (.int v1), some (.int v2), some (.int v3), some (.int v4), none] [] mw_Y0 I L 0 0
  refine mw_aload_n hX dL_setPond_0 rfl rfl ?_
  refine mw_iload_n hX dL_setPond_1 rfl rfl ?_
  refine mw_iload_n hX dL_setPond_2 rfl rfl ?_
  refine mw_iload_n hX dL_setPond_3 rfl rfl ?_
  refine mw_iload hX dL_setPond_4 rfl ?_
  refine mw_cVC hX [_, _, _, _] ws_L_7 dL_setPond_6 hc (mw_Yl (by decide)) mw_YW (by decide) rfl (by omega) (by omega) (by omega) (Nat.le_of_ble_eq_true rfl) [] ((tableOf [(0, 9, 12, 13)]).head (by decide)) [] (hT.trans rfl) (fun _ h => absurd h List.not_mem_nil) (by decide) (by decide) wk_13 (Or.inl rfl) (hp2 := 12) (i := 5) (wd := 2) rfl (Nat.le_of_ble_eq_true rfl) (Or.inr ⟨dL_setPond_12, rfl⟩) ?_
  dsimp only [List.set]
  refine mw_ic hX 1 dL_setPond_14 rfl ?_
  exact mw_ireturn hX hE dL_setPond_15 rfl (by omega) (by omega)
set_option maxRecDepth 20000 in
theorem w_setInflow (l : Launch) (v1 v2 v3 : Int32) (d0 mc ms : Nat) (hd : d0 < 13) (hmc : mc ≤ 10) (hms : ms ≤ 60) {I : mw_I} {L : mw_L} {J : mw_I} {u : Int32} (hc : mw_CT l yX1_setInflow (.code yX1_setInflow cX1_setInflow 5 (some .int)) d0 mc ms [.ref 0, .int v1, .int v2, .int v3] (mw_Y0, I, L) (.inl (some (.int u), mw_Y0, J, L))) : mw_CT l yL_setInflow (.codeWith yL_setInflow cL_setInflow 6 (some .int) [(0, 12, 15, 13)]) 13 10 60 [.ref 0, .int v1, .int v2, .int v3, .ref 59] (mw_Y0, I, L) (.inl (some (.int 0), mw_Y0, J, mw_upL L 59 0 u.toInt64)) := by
  refine mw_enterH RL rfl (by decide +kernel) (mw_cat rfl) (Nat.le_of_ble_eq_true rfl) (fun X hX hl hE hT => ?_)
  subst hl
  show mw_G X 0 [some (.ref 0), some (.int v1), some (.int v2), some (.int v3), some (.ref 59), none] [] mw_Y0 I L 0 0
  refine mw_aload hX dL_setInflow_0 rfl ?_
  refine mw_ic hX 0 dL_setInflow_2 rfl ?_
  refine mw_aload_n hX dL_setInflow_3 rfl rfl ?_
  refine mw_iload_n hX dL_setInflow_4 rfl rfl ?_
  refine mw_iload_n hX dL_setInflow_5 rfl rfl ?_
  refine mw_iload_n hX dL_setInflow_6 rfl rfl ?_
  refine mw_cV hX [_, _, _] ws_L_15 dL_setInflow_7 hc (mw_Yl (by decide)) mw_YW (by decide) rfl (by omega) (by omega) (by omega) (Nat.le_of_ble_eq_true rfl) ?_
  refine mw_i2l hX dL_setInflow_10 ?_
  refine mw_lastore hX (j := 0) dL_setInflow_11 (mw_Yl (by decide)) rfl rfl (by decide) (by decide) ?_
  refine mw_goto hX (tgt := 19) dL_setInflow_12 (by decide) ?_
  refine mw_ic hX 0 dL_setInflow_19 rfl ?_
  exact mw_ireturn hX hE dL_setInflow_20 rfl (by omega) (by omega)
set_option maxRecDepth 20000 in
theorem w_setInflowX (l : Launch) (v1 v2 v3 : Int32) (d0 mc ms : Nat) (hd : d0 < 13) (hmc : mc ≤ 10) (hms : ms ≤ 60) {I : mw_I} {L : mw_L} (hc : mw_CT l yX1_setInflow (.code yX1_setInflow cX1_setInflow 5 (some .int)) d0 mc ms [.ref 0, .int v1, .int v2, .int v3] (mw_Y0, I, L) (.inr "java/lang/IllegalArgumentException")) : mw_CT l yL_setInflow (.codeWith yL_setInflow cL_setInflow 6 (some .int) [(0, 12, 15, 13)]) 13 10 60 [.ref 0, .int v1, .int v2, .int v3, .ref 59] (mw_Y0, I, L) (.inl (some (.int 1), mw_Y0, I, L)) := by
  refine mw_enterH RL rfl (by decide +kernel) (mw_cat rfl) (Nat.le_of_ble_eq_true rfl) (fun X hX hl hE hT => ?_)
  subst hl
  show mw_G X 0 [some (.ref 0), some (.int v1), some (.int v2), some (.int v3), some (.ref 59), none] [] mw_Y0 I L 0 0
  refine mw_aload hX dL_setInflow_0 rfl ?_
  refine mw_ic hX 0 dL_setInflow_2 rfl ?_
  refine mw_aload_n hX dL_setInflow_3 rfl rfl ?_
  refine mw_iload_n hX dL_setInflow_4 rfl rfl ?_
  refine mw_iload_n hX dL_setInflow_5 rfl rfl ?_
  refine mw_iload_n hX dL_setInflow_6 rfl rfl ?_
  refine mw_cVC hX [_, _, _] ws_L_15 dL_setInflow_7 hc (mw_Yl (by decide)) mw_YW (by decide) rfl (by omega) (by omega) (by omega) (Nat.le_of_ble_eq_true rfl) [] ((tableOf [(0, 12, 15, 13)]).head (by decide)) [] (hT.trans rfl) (fun _ h => absurd h List.not_mem_nil) (by decide) (by decide) wk_13 (Or.inl rfl) (hp2 := 15) (i := 5) (wd := 2) rfl (Nat.le_of_ble_eq_true rfl) (Or.inr ⟨dL_setInflow_15, rfl⟩) ?_
  dsimp only [List.set]
  refine mw_ic hX 1 dL_setInflow_17 rfl ?_
  exact mw_ireturn hX hE dL_setInflow_18 rfl (by omega) (by omega)
set_option maxRecDepth 20000 in
theorem w_setMinimum (l : Launch) (v1 v2 : Int32) (d0 mc ms : Nat) (hd : d0 < 13) (hmc : mc ≤ 10) (hms : ms ≤ 60) {I : mw_I} {L : mw_L} {J : mw_I} {u : Int32} (hc : mw_CT l yX1_setMinimum (.code yX1_setMinimum cX1_setMinimum 4 (some .int)) d0 mc ms [.ref 0, .int v1, .int v2] (mw_Y0, I, L) (.inl (some (.int u), mw_Y0, J, L))) : mw_CT l yL_setMinimum (.codeWith yL_setMinimum cL_setMinimum 5 (some .int) [(0, 10, 13, 13)]) 13 10 60 [.ref 0, .int v1, .int v2, .ref 59] (mw_Y0, I, L) (.inl (some (.int 0), mw_Y0, J, mw_upL L 59 0 u.toInt64)) := by
  refine mw_enterH RL rfl (by decide +kernel) (mw_cat rfl) (Nat.le_of_ble_eq_true rfl) (fun X hX hl hE hT => ?_)
  subst hl
  show mw_G X 0 [some (.ref 0), some (.int v1), some (.int v2), some (.ref 59), none] [] mw_Y0 I L 0 0
  refine mw_aload_n hX dL_setMinimum_0 rfl rfl ?_
  refine mw_ic hX 0 dL_setMinimum_1 rfl ?_
  refine mw_aload_n hX dL_setMinimum_2 rfl rfl ?_
  refine mw_iload_n hX dL_setMinimum_3 rfl rfl ?_
  refine mw_iload_n hX dL_setMinimum_4 rfl rfl ?_
  refine mw_cV hX [_, _] ws_L_19 dL_setMinimum_5 hc (mw_Yl (by decide)) mw_YW (by decide) rfl (by omega) (by omega) (by omega) (Nat.le_of_ble_eq_true rfl) ?_
  refine mw_i2l hX dL_setMinimum_8 ?_
  refine mw_lastore hX (j := 0) dL_setMinimum_9 (mw_Yl (by decide)) rfl rfl (by decide) (by decide) ?_
  refine mw_goto hX (tgt := 17) dL_setMinimum_10 (by decide) ?_
  refine mw_ic hX 0 dL_setMinimum_17 rfl ?_
  exact mw_ireturn hX hE dL_setMinimum_18 rfl (by omega) (by omega)
set_option maxRecDepth 20000 in
theorem w_setMinimumX (l : Launch) (v1 v2 : Int32) (d0 mc ms : Nat) (hd : d0 < 13) (hmc : mc ≤ 10) (hms : ms ≤ 60) {I : mw_I} {L : mw_L} (hc : mw_CT l yX1_setMinimum (.code yX1_setMinimum cX1_setMinimum 4 (some .int)) d0 mc ms [.ref 0, .int v1, .int v2] (mw_Y0, I, L) (.inr "java/lang/IllegalArgumentException")) : mw_CT l yL_setMinimum (.codeWith yL_setMinimum cL_setMinimum 5 (some .int) [(0, 10, 13, 13)]) 13 10 60 [.ref 0, .int v1, .int v2, .ref 59] (mw_Y0, I, L) (.inl (some (.int 1), mw_Y0, I, L)) := by
  refine mw_enterH RL rfl (by decide +kernel) (mw_cat rfl) (Nat.le_of_ble_eq_true rfl) (fun X hX hl hE hT => ?_)
  subst hl
  show mw_G X 0 [some (.ref 0), some (.int v1), some (.int v2), some (.ref 59), none] [] mw_Y0 I L 0 0
  refine mw_aload_n hX dL_setMinimum_0 rfl rfl ?_
  refine mw_ic hX 0 dL_setMinimum_1 rfl ?_
  refine mw_aload_n hX dL_setMinimum_2 rfl rfl ?_
  refine mw_iload_n hX dL_setMinimum_3 rfl rfl ?_
  refine mw_iload_n hX dL_setMinimum_4 rfl rfl ?_
  refine mw_cVC hX [_, _] ws_L_19 dL_setMinimum_5 hc (mw_Yl (by decide)) mw_YW (by decide) rfl (by omega) (by omega) (by omega) (Nat.le_of_ble_eq_true rfl) [] ((tableOf [(0, 10, 13, 13)]).head (by decide)) [] (hT.trans rfl) (fun _ h => absurd h List.not_mem_nil) (by decide) (by decide) wk_13 (Or.inl rfl) (hp2 := 13) (i := 4) (wd := 2) rfl (Nat.le_of_ble_eq_true rfl) (Or.inr ⟨dL_setMinimum_13, rfl⟩) ?_
  dsimp only [List.set]
  refine mw_ic hX 1 dL_setMinimum_15 rfl ?_
  exact mw_ireturn hX hE dL_setMinimum_16 rfl (by omega) (by omega)
set_option maxRecDepth 20000 in
theorem w_order (l : Launch) (v1 v2 v3 : Int32) (d0 mc ms : Nat) (hd : d0 < 13) (hmc : mc ≤ 10) (hms : ms ≤ 60) {I : mw_I} {L : mw_L} {J : mw_I} {u : Int32} (hc : mw_CT l yX1_order (.code yX1_order cX1_order 5 (some .int)) d0 mc ms [.ref 0, .int v1, .int v2, .int v3] (mw_Y0, I, L) (.inl (some (.int u), mw_Y0, J, L))) : mw_CT l yL_order (.codeWith yL_order cL_order 6 (some .int) [(0, 12, 15, 13)]) 13 10 60 [.ref 0, .int v1, .int v2, .int v3, .ref 59] (mw_Y0, I, L) (.inl (some (.int 0), mw_Y0, J, mw_upL L 59 0 u.toInt64)) := by
  refine mw_enterH RL rfl (by decide +kernel) (mw_cat rfl) (Nat.le_of_ble_eq_true rfl) (fun X hX hl hE hT => ?_)
  subst hl
  show mw_G X 0 [some (.ref 0), some (.int v1), some (.int v2), some (.int v3), some (.ref 59), none] [] mw_Y0 I L 0 0
  refine mw_aload hX dL_order_0 rfl ?_
  refine mw_ic hX 0 dL_order_2 rfl ?_
  refine mw_aload_n hX dL_order_3 rfl rfl ?_
  refine mw_iload_n hX dL_order_4 rfl rfl ?_
  refine mw_iload_n hX dL_order_5 rfl rfl ?_
  refine mw_iload_n hX dL_order_6 rfl rfl ?_
  refine mw_cV hX [_, _, _] ws_L_23 dL_order_7 hc (mw_Yl (by decide)) mw_YW (by decide) rfl (by omega) (by omega) (by omega) (Nat.le_of_ble_eq_true rfl) ?_
  refine mw_i2l hX dL_order_10 ?_
  refine mw_lastore hX (j := 0) dL_order_11 (mw_Yl (by decide)) rfl rfl (by decide) (by decide) ?_
  refine mw_goto hX (tgt := 19) dL_order_12 (by decide) ?_
  refine mw_ic hX 0 dL_order_19 rfl ?_
  exact mw_ireturn hX hE dL_order_20 rfl (by omega) (by omega)
set_option maxRecDepth 20000 in
theorem w_orderX (l : Launch) (v1 v2 v3 : Int32) (d0 mc ms : Nat) (hd : d0 < 13) (hmc : mc ≤ 10) (hms : ms ≤ 60) {I : mw_I} {L : mw_L} (hc : mw_CT l yX1_order (.code yX1_order cX1_order 5 (some .int)) d0 mc ms [.ref 0, .int v1, .int v2, .int v3] (mw_Y0, I, L) (.inr "java/lang/IllegalArgumentException")) : mw_CT l yL_order (.codeWith yL_order cL_order 6 (some .int) [(0, 12, 15, 13)]) 13 10 60 [.ref 0, .int v1, .int v2, .int v3, .ref 59] (mw_Y0, I, L) (.inl (some (.int 1), mw_Y0, I, L)) := by
  refine mw_enterH RL rfl (by decide +kernel) (mw_cat rfl) (Nat.le_of_ble_eq_true rfl) (fun X hX hl hE hT => ?_)
  subst hl
  show mw_G X 0 [some (.ref 0), some (.int v1), some (.int v2), some (.int v3), some (.ref 59), none] [] mw_Y0 I L 0 0
  refine mw_aload hX dL_order_0 rfl ?_
  refine mw_ic hX 0 dL_order_2 rfl ?_
  refine mw_aload_n hX dL_order_3 rfl rfl ?_
  refine mw_iload_n hX dL_order_4 rfl rfl ?_
  refine mw_iload_n hX dL_order_5 rfl rfl ?_
  refine mw_iload_n hX dL_order_6 rfl rfl ?_
  refine mw_cVC hX [_, _, _] ws_L_23 dL_order_7 hc (mw_Yl (by decide)) mw_YW (by decide) rfl (by omega) (by omega) (by omega) (Nat.le_of_ble_eq_true rfl) [] ((tableOf [(0, 12, 15, 13)]).head (by decide)) [] (hT.trans rfl) (fun _ h => absurd h List.not_mem_nil) (by decide) (by decide) wk_13 (Or.inl rfl) (hp2 := 15) (i := 5) (wd := 2) rfl (Nat.le_of_ble_eq_true rfl) (Or.inr ⟨dL_order_15, rfl⟩) ?_
  dsimp only [List.set]
  refine mw_ic hX 1 dL_order_17 rfl ?_
  exact mw_ireturn hX hE dL_order_18 rfl (by omega) (by omega)
set_option maxRecDepth 20000 in
theorem w_setYield (l : Launch) (v1 v2 v3 v4 : Int32) (d0 mc ms : Nat) (hd : d0 < 13) (hmc : mc ≤ 10) (hms : ms ≤ 60) {I : mw_I} {L : mw_L} {J : mw_I} {u : Int32} (hc : mw_CT l yX1_setYield (.code yX1_setYield cX1_setYield 6 (some .int)) d0 mc ms [.ref 0, .int v1, .int v2, .int v3, .int v4] (mw_Y0, I, L) (.inl (some (.int u), mw_Y0, J, L))) : mw_CT l yL_setYield (.codeWith yL_setYield cL_setYield 7 (some .int) [(0, 14, 17, 13)]) 13 10 60 [.ref 0, .int v1, .int v2, .int v3, .int v4, .ref 59] (mw_Y0, I, L) (.inl (some (.int 0), mw_Y0, J, mw_upL L 59 0 u.toInt64)) := by
  refine mw_enterH RL rfl (by decide +kernel) (mw_cat rfl) (Nat.le_of_ble_eq_true rfl) (fun X hX hl hE hT => ?_)
  subst hl
  show mw_G X 0 [some (.ref 0), some (.int v1), some (.int v2), some (.int v3), some (.int v4), some (.ref 59), none] [] mw_Y0 I L 0 0
  refine mw_aload hX dL_setYield_0 rfl ?_
  refine mw_ic hX 0 dL_setYield_2 rfl ?_
  refine mw_aload_n hX dL_setYield_3 rfl rfl ?_
  refine mw_iload_n hX dL_setYield_4 rfl rfl ?_
  refine mw_iload_n hX dL_setYield_5 rfl rfl ?_
  refine mw_iload_n hX dL_setYield_6 rfl rfl ?_
  refine mw_iload hX dL_setYield_7 rfl ?_
  refine mw_cV hX [_, _, _, _] ws_L_26 dL_setYield_9 hc (mw_Yl (by decide)) mw_YW (by decide) rfl (by omega) (by omega) (by omega) (Nat.le_of_ble_eq_true rfl) ?_
  refine mw_i2l hX dL_setYield_12 ?_
  refine mw_lastore hX (j := 0) dL_setYield_13 (mw_Yl (by decide)) rfl rfl (by decide) (by decide) ?_
  refine mw_goto hX (tgt := 21) dL_setYield_14 (by decide) ?_
  refine mw_ic hX 0 dL_setYield_21 rfl ?_
  exact mw_ireturn hX hE dL_setYield_22 rfl (by omega) (by omega)
set_option maxRecDepth 20000 in
theorem w_setYieldX (l : Launch) (v1 v2 v3 v4 : Int32) (d0 mc ms : Nat) (hd : d0 < 13) (hmc : mc ≤ 10) (hms : ms ≤ 60) {I : mw_I} {L : mw_L} (hc : mw_CT l yX1_setYield (.code yX1_setYield cX1_setYield 6 (some .int)) d0 mc ms [.ref 0, .int v1, .int v2, .int v3, .int v4] (mw_Y0, I, L) (.inr "java/lang/IllegalArgumentException")) : mw_CT l yL_setYield (.codeWith yL_setYield cL_setYield 7 (some .int) [(0, 14, 17, 13)]) 13 10 60 [.ref 0, .int v1, .int v2, .int v3, .int v4, .ref 59] (mw_Y0, I, L) (.inl (some (.int 1), mw_Y0, I, L)) := by
  refine mw_enterH RL rfl (by decide +kernel) (mw_cat rfl) (Nat.le_of_ble_eq_true rfl) (fun X hX hl hE hT => ?_)
  subst hl
  show mw_G X 0 [some (.ref 0), some (.int v1), some (.int v2), some (.int v3), some (.int v4), some (.ref 59), none] [] mw_Y0 I L 0 0
  refine mw_aload hX dL_setYield_0 rfl ?_
  refine mw_ic hX 0 dL_setYield_2 rfl ?_
  refine mw_aload_n hX dL_setYield_3 rfl rfl ?_
  refine mw_iload_n hX dL_setYield_4 rfl rfl ?_
  refine mw_iload_n hX dL_setYield_5 rfl rfl ?_
  refine mw_iload_n hX dL_setYield_6 rfl rfl ?_
  refine mw_iload hX dL_setYield_7 rfl ?_
  refine mw_cVC hX [_, _, _, _] ws_L_26 dL_setYield_9 hc (mw_Yl (by decide)) mw_YW (by decide) rfl (by omega) (by omega) (by omega) (Nat.le_of_ble_eq_true rfl) [] ((tableOf [(0, 14, 17, 13)]).head (by decide)) [] (hT.trans rfl) (fun _ h => absurd h List.not_mem_nil) (by decide) (by decide) wk_13 (Or.inl rfl) (hp2 := 17) (i := 6) (wd := 2) rfl (Nat.le_of_ble_eq_true rfl) (Or.inr ⟨dL_setYield_17, rfl⟩) ?_
  dsimp only [List.set]
  refine mw_ic hX 1 dL_setYield_19 rfl ?_
  exact mw_ireturn hX hE dL_setYield_20 rfl (by omega) (by omega)
set_option maxRecDepth 20000 in
theorem w_run (l : Launch) (v1 : Int32) (d0 mc ms : Nat) (hd : d0 < 13) (hmc : mc ≤ 10) (hms : ms ≤ 60) {I : mw_I} {L : mw_L} {J : mw_I} {u : Int32} (hc : mw_CT l yX1_run (.code yX1_run cX1_run 4 (some .int)) d0 mc ms [.ref 0, .int v1] (mw_Y0, I, L) (.inl (some (.int u), mw_Y0, J, L))) : mw_CT l yL_run (.codeWith yL_run cL_run 4 (some .int) [(0, 9, 12, 13), (0, 9, 15, 34)]) 13 10 60 [.ref 0, .int v1, .ref 59] (mw_Y0, I, L) (.inl (some (.int 0), mw_Y0, J, mw_upL L 59 0 u.toInt64)) := by
  refine mw_enterH RL rfl (by decide +kernel) (mw_cat rfl) (Nat.le_of_ble_eq_true rfl) (fun X hX hl hE hT => ?_)
  subst hl
  show mw_G X 0 [some (.ref 0), some (.int v1), some (.ref 59), none] [] mw_Y0 I L 0 0
  refine mw_aload_n hX dL_run_0 rfl rfl ?_
  refine mw_ic hX 0 dL_run_1 rfl ?_
  refine mw_aload_n hX dL_run_2 rfl rfl ?_
  refine mw_iload_n hX dL_run_3 rfl rfl ?_
  refine mw_cV hX [_] ws_L_30 dL_run_4 hc (mw_Yl (by decide)) mw_YW (by decide) rfl (by omega) (by omega) (by omega) (Nat.le_of_ble_eq_true rfl) ?_
  refine mw_i2l hX dL_run_7 ?_
  refine mw_lastore hX (j := 0) dL_run_8 (mw_Yl (by decide)) rfl rfl (by decide) (by decide) ?_
  refine mw_goto hX (tgt := 18) dL_run_9 (by decide) ?_
  refine mw_ic hX 0 dL_run_18 rfl ?_
  exact mw_ireturn hX hE dL_run_19 rfl (by omega) (by omega)
set_option maxRecDepth 20000 in
theorem w_runX (l : Launch) (v1 : Int32) (d0 mc ms : Nat) (hd : d0 < 13) (hmc : mc ≤ 10) (hms : ms ≤ 60) {I : mw_I} {L : mw_L} (hc : mw_CT l yX1_run (.code yX1_run cX1_run 4 (some .int)) d0 mc ms [.ref 0, .int v1] (mw_Y0, I, L) (.inr "java/lang/IllegalArgumentException")) : mw_CT l yL_run (.codeWith yL_run cL_run 4 (some .int) [(0, 9, 12, 13), (0, 9, 15, 34)]) 13 10 60 [.ref 0, .int v1, .ref 59] (mw_Y0, I, L) (.inl (some (.int 1), mw_Y0, I, L)) := by
  refine mw_enterH RL rfl (by decide +kernel) (mw_cat rfl) (Nat.le_of_ble_eq_true rfl) (fun X hX hl hE hT => ?_)
  subst hl
  show mw_G X 0 [some (.ref 0), some (.int v1), some (.ref 59), none] [] mw_Y0 I L 0 0
  refine mw_aload_n hX dL_run_0 rfl rfl ?_
  refine mw_ic hX 0 dL_run_1 rfl ?_
  refine mw_aload_n hX dL_run_2 rfl rfl ?_
  refine mw_iload_n hX dL_run_3 rfl rfl ?_
  refine mw_cVC hX [_] ws_L_30 dL_run_4 hc (mw_Yl (by decide)) mw_YW (by decide) rfl (by omega) (by omega) (by omega) (Nat.le_of_ble_eq_true rfl) [] ((tableOf [(0, 9, 12, 13)]).head (by decide)) (tableOf [(0, 9, 15, 34)]) (hT.trans rfl) (fun _ h => absurd h List.not_mem_nil) (by decide) (by decide) wk_13 (Or.inl rfl) (hp2 := 12) (i := 3) (wd := 1) rfl (Nat.le_of_ble_eq_true rfl) (Or.inl ⟨3, dL_run_12, rfl, rfl⟩) ?_
  dsimp only [List.set]
  refine mw_ic hX 1 dL_run_13 rfl ?_
  exact mw_ireturn hX hE dL_run_14 rfl (by omega) (by omega)
set_option maxRecDepth 20000 in
theorem w_runS (l : Launch) (v1 : Int32) (d0 mc ms : Nat) (hd : d0 < 13) (hmc : mc ≤ 10) (hms : ms ≤ 60) {I : mw_I} {L : mw_L} (hc : mw_CT l yX1_run (.code yX1_run cX1_run 4 (some .int)) d0 mc ms [.ref 0, .int v1] (mw_Y0, I, L) (.inr "java/lang/IllegalStateException")) : mw_CT l yL_run (.codeWith yL_run cL_run 4 (some .int) [(0, 9, 12, 13), (0, 9, 15, 34)]) 13 10 60 [.ref 0, .int v1, .ref 59] (mw_Y0, I, L) (.inl (some (.int 2), mw_Y0, I, L)) := by
  refine mw_enterH RL rfl (by decide +kernel) (mw_cat rfl) (Nat.le_of_ble_eq_true rfl) (fun X hX hl hE hT => ?_)
  subst hl
  show mw_G X 0 [some (.ref 0), some (.int v1), some (.ref 59), none] [] mw_Y0 I L 0 0
  refine mw_aload_n hX dL_run_0 rfl rfl ?_
  refine mw_ic hX 0 dL_run_1 rfl ?_
  refine mw_aload_n hX dL_run_2 rfl rfl ?_
  refine mw_iload_n hX dL_run_3 rfl rfl ?_
  refine mw_cVC hX [_] ws_L_30 dL_run_4 hc (mw_Yl (by decide)) mw_YW (by decide) rfl (by omega) (by omega) (by omega) (Nat.le_of_ble_eq_true rfl) (tableOf [(0, 9, 12, 13)]) ((tableOf [(0, 9, 15, 34)]).head (by decide)) [] (hT.trans rfl) (fun z h => by rcases List.mem_singleton.mp h with rfl; exact ⟨by decide, _, wk_13, Or.inr ⟨rfl, rfl⟩⟩) (by decide) (by decide) wk_34 (Or.inr rfl) (hp2 := 15) (i := 3) (wd := 1) rfl (Nat.le_of_ble_eq_true rfl) (Or.inl ⟨3, dL_run_15, rfl, rfl⟩) ?_
  dsimp only [List.set]
  refine mw_ic hX 2 dL_run_16 rfl ?_
  exact mw_ireturn hX hE dL_run_17 rfl (by omega) (by omega)
set_option maxRecDepth 20000 in
theorem w_lend (l : Launch) (v1 v2 v3 : Int32) (d0 mc ms : Nat) (hd : d0 < 13) (hmc : mc ≤ 10) (hms : ms ≤ 60) {I : mw_I} {L : mw_L} {J : mw_I} {u : Int32} (hc : mw_CT l yX1_lend (.code yX1_lend cX1_lend 6 (some .int)) d0 mc ms [.ref 0, .int v1, .int v2, .int v3] (mw_Y0, I, L) (.inl (some (.int u), mw_Y0, J, L))) : mw_CT l yL_lend (.codeWith yL_lend cL_lend 6 (some .int) [(0, 12, 15, 13), (0, 12, 19, 34)]) 13 10 60 [.ref 0, .int v1, .int v2, .int v3, .ref 59] (mw_Y0, I, L) (.inl (some (.int 0), mw_Y0, J, mw_upL L 59 0 u.toInt64)) := by
  refine mw_enterH RL rfl (by decide +kernel) (mw_cat rfl) (Nat.le_of_ble_eq_true rfl) (fun X hX hl hE hT => ?_)
  subst hl
  show mw_G X 0 [some (.ref 0), some (.int v1), some (.int v2), some (.int v3), some (.ref 59), none] [] mw_Y0 I L 0 0
  refine mw_aload hX dL_lend_0 rfl ?_
  refine mw_ic hX 0 dL_lend_2 rfl ?_
  refine mw_aload_n hX dL_lend_3 rfl rfl ?_
  refine mw_iload_n hX dL_lend_4 rfl rfl ?_
  refine mw_iload_n hX dL_lend_5 rfl rfl ?_
  refine mw_iload_n hX dL_lend_6 rfl rfl ?_
  refine mw_cV hX [_, _, _] ws_L_36 dL_lend_7 hc (mw_Yl (by decide)) mw_YW (by decide) rfl (by omega) (by omega) (by omega) (Nat.le_of_ble_eq_true rfl) ?_
  refine mw_i2l hX dL_lend_10 ?_
  refine mw_lastore hX (j := 0) dL_lend_11 (mw_Yl (by decide)) rfl rfl (by decide) (by decide) ?_
  refine mw_goto hX (tgt := 23) dL_lend_12 (by decide) ?_
  refine mw_ic hX 0 dL_lend_23 rfl ?_
  exact mw_ireturn hX hE dL_lend_24 rfl (by omega) (by omega)
set_option maxRecDepth 20000 in
theorem w_lendX (l : Launch) (v1 v2 v3 : Int32) (d0 mc ms : Nat) (hd : d0 < 13) (hmc : mc ≤ 10) (hms : ms ≤ 60) {I : mw_I} {L : mw_L} (hc : mw_CT l yX1_lend (.code yX1_lend cX1_lend 6 (some .int)) d0 mc ms [.ref 0, .int v1, .int v2, .int v3] (mw_Y0, I, L) (.inr "java/lang/IllegalArgumentException")) : mw_CT l yL_lend (.codeWith yL_lend cL_lend 6 (some .int) [(0, 12, 15, 13), (0, 12, 19, 34)]) 13 10 60 [.ref 0, .int v1, .int v2, .int v3, .ref 59] (mw_Y0, I, L) (.inl (some (.int 1), mw_Y0, I, L)) := by
  refine mw_enterH RL rfl (by decide +kernel) (mw_cat rfl) (Nat.le_of_ble_eq_true rfl) (fun X hX hl hE hT => ?_)
  subst hl
  show mw_G X 0 [some (.ref 0), some (.int v1), some (.int v2), some (.int v3), some (.ref 59), none] [] mw_Y0 I L 0 0
  refine mw_aload hX dL_lend_0 rfl ?_
  refine mw_ic hX 0 dL_lend_2 rfl ?_
  refine mw_aload_n hX dL_lend_3 rfl rfl ?_
  refine mw_iload_n hX dL_lend_4 rfl rfl ?_
  refine mw_iload_n hX dL_lend_5 rfl rfl ?_
  refine mw_iload_n hX dL_lend_6 rfl rfl ?_
  refine mw_cVC hX [_, _, _] ws_L_36 dL_lend_7 hc (mw_Yl (by decide)) mw_YW (by decide) rfl (by omega) (by omega) (by omega) (Nat.le_of_ble_eq_true rfl) [] ((tableOf [(0, 12, 15, 13)]).head (by decide)) (tableOf [(0, 12, 19, 34)]) (hT.trans rfl) (fun _ h => absurd h List.not_mem_nil) (by decide) (by decide) wk_13 (Or.inl rfl) (hp2 := 15) (i := 5) (wd := 2) rfl (Nat.le_of_ble_eq_true rfl) (Or.inr ⟨dL_lend_15, rfl⟩) ?_
  dsimp only [List.set]
  refine mw_ic hX 1 dL_lend_17 rfl ?_
  exact mw_ireturn hX hE dL_lend_18 rfl (by omega) (by omega)
set_option maxRecDepth 20000 in
theorem w_lendS (l : Launch) (v1 v2 v3 : Int32) (d0 mc ms : Nat) (hd : d0 < 13) (hmc : mc ≤ 10) (hms : ms ≤ 60) {I : mw_I} {L : mw_L} (hc : mw_CT l yX1_lend (.code yX1_lend cX1_lend 6 (some .int)) d0 mc ms [.ref 0, .int v1, .int v2, .int v3] (mw_Y0, I, L) (.inr "java/lang/IllegalStateException")) : mw_CT l yL_lend (.codeWith yL_lend cL_lend 6 (some .int) [(0, 12, 15, 13), (0, 12, 19, 34)]) 13 10 60 [.ref 0, .int v1, .int v2, .int v3, .ref 59] (mw_Y0, I, L) (.inl (some (.int 2), mw_Y0, I, L)) := by
  refine mw_enterH RL rfl (by decide +kernel) (mw_cat rfl) (Nat.le_of_ble_eq_true rfl) (fun X hX hl hE hT => ?_)
  subst hl
  show mw_G X 0 [some (.ref 0), some (.int v1), some (.int v2), some (.int v3), some (.ref 59), none] [] mw_Y0 I L 0 0
  refine mw_aload hX dL_lend_0 rfl ?_
  refine mw_ic hX 0 dL_lend_2 rfl ?_
  refine mw_aload_n hX dL_lend_3 rfl rfl ?_
  refine mw_iload_n hX dL_lend_4 rfl rfl ?_
  refine mw_iload_n hX dL_lend_5 rfl rfl ?_
  refine mw_iload_n hX dL_lend_6 rfl rfl ?_
  refine mw_cVC hX [_, _, _] ws_L_36 dL_lend_7 hc (mw_Yl (by decide)) mw_YW (by decide) rfl (by omega) (by omega) (by omega) (Nat.le_of_ble_eq_true rfl) (tableOf [(0, 12, 15, 13)]) ((tableOf [(0, 12, 19, 34)]).head (by decide)) [] (hT.trans rfl) (fun z h => by rcases List.mem_singleton.mp h with rfl; exact ⟨by decide, _, wk_13, Or.inr ⟨rfl, rfl⟩⟩) (by decide) (by decide) wk_34 (Or.inr rfl) (hp2 := 19) (i := 5) (wd := 2) rfl (Nat.le_of_ble_eq_true rfl) (Or.inr ⟨dL_lend_19, rfl⟩) ?_
  dsimp only [List.set]
  refine mw_ic hX 2 dL_lend_21 rfl ?_
  exact mw_ireturn hX hE dL_lend_22 rfl (by omega) (by omega)
set_option maxRecDepth 20000 in
theorem w_account (l : Launch) (v1 v2 : Int32) (d0 mc ms : Nat) (hd : d0 < 13) (hmc : mc ≤ 10) (hms : ms ≤ 60) {I : mw_I} {L : mw_L} {J : mw_I} {u : Int32} (hc : mw_CT l yX1_account (.code yX1_account cX1_account 3 (some .int)) d0 mc ms [.ref 0, .int v1, .int v2] (mw_Y0, I, L) (.inl (some (.int u), mw_Y0, J, L))) : mw_CT l yL_account (.codeWith yL_account cL_account 5 (some .int) [(0, 10, 13, 13)]) 13 10 60 [.ref 0, .int v1, .int v2, .ref 59] (mw_Y0, I, L) (.inl (some (.int 0), mw_Y0, J, mw_upL L 59 0 u.toInt64)) := by
  refine mw_enterH RL rfl (by decide +kernel) (mw_cat rfl) (Nat.le_of_ble_eq_true rfl) (fun X hX hl hE hT => ?_)
  subst hl
  show mw_G X 0 [some (.ref 0), some (.int v1), some (.int v2), some (.ref 59), none] [] mw_Y0 I L 0 0
  refine mw_aload_n hX dL_account_0 rfl rfl ?_
  refine mw_ic hX 0 dL_account_1 rfl ?_
  refine mw_aload_n hX dL_account_2 rfl rfl ?_
  refine mw_iload_n hX dL_account_3 rfl rfl ?_
  refine mw_iload_n hX dL_account_4 rfl rfl ?_
  refine mw_cV hX [_, _] ws_L_39 dL_account_5 hc (mw_Yl (by decide)) mw_YW (by decide) rfl (by omega) (by omega) (by omega) (Nat.le_of_ble_eq_true rfl) ?_
  refine mw_i2l hX dL_account_8 ?_
  refine mw_lastore hX (j := 0) dL_account_9 (mw_Yl (by decide)) rfl rfl (by decide) (by decide) ?_
  refine mw_goto hX (tgt := 17) dL_account_10 (by decide) ?_
  refine mw_ic hX 0 dL_account_17 rfl ?_
  exact mw_ireturn hX hE dL_account_18 rfl (by omega) (by omega)
set_option maxRecDepth 20000 in
theorem w_accountX (l : Launch) (v1 v2 : Int32) (d0 mc ms : Nat) (hd : d0 < 13) (hmc : mc ≤ 10) (hms : ms ≤ 60) {I : mw_I} {L : mw_L} (hc : mw_CT l yX1_account (.code yX1_account cX1_account 3 (some .int)) d0 mc ms [.ref 0, .int v1, .int v2] (mw_Y0, I, L) (.inr "java/lang/IllegalArgumentException")) : mw_CT l yL_account (.codeWith yL_account cL_account 5 (some .int) [(0, 10, 13, 13)]) 13 10 60 [.ref 0, .int v1, .int v2, .ref 59] (mw_Y0, I, L) (.inl (some (.int 1), mw_Y0, I, L)) := by
  refine mw_enterH RL rfl (by decide +kernel) (mw_cat rfl) (Nat.le_of_ble_eq_true rfl) (fun X hX hl hE hT => ?_)
  subst hl
  show mw_G X 0 [some (.ref 0), some (.int v1), some (.int v2), some (.ref 59), none] [] mw_Y0 I L 0 0
  refine mw_aload_n hX dL_account_0 rfl rfl ?_
  refine mw_ic hX 0 dL_account_1 rfl ?_
  refine mw_aload_n hX dL_account_2 rfl rfl ?_
  refine mw_iload_n hX dL_account_3 rfl rfl ?_
  refine mw_iload_n hX dL_account_4 rfl rfl ?_
  refine mw_cVC hX [_, _] ws_L_39 dL_account_5 hc (mw_Yl (by decide)) mw_YW (by decide) rfl (by omega) (by omega) (by omega) (Nat.le_of_ble_eq_true rfl) [] ((tableOf [(0, 10, 13, 13)]).head (by decide)) [] (hT.trans rfl) (fun _ h => absurd h List.not_mem_nil) (by decide) (by decide) wk_13 (Or.inl rfl) (hp2 := 13) (i := 4) (wd := 2) rfl (Nat.le_of_ble_eq_true rfl) (Or.inr ⟨dL_account_13, rfl⟩) ?_
  dsimp only [List.set]
  refine mw_ic hX 1 dL_account_15 rfl ?_
  exact mw_ireturn hX hE dL_account_16 rfl (by omega) (by omega)
set_option maxRecDepth 20000 in
theorem w_level (l : Launch) (v1 : Int32) (d0 mc ms : Nat) (hd : d0 < 13) (hmc : mc ≤ 10) (hms : ms ≤ 60) {I : mw_I} {L : mw_L} {J : mw_I} {u : Int32} (hc : mw_CT l yX1_level (.code yX1_level cX1_level 2 (some .int)) d0 mc ms [.ref 0, .int v1] (mw_Y0, I, L) (.inl (some (.int u), mw_Y0, J, L))) : mw_CT l yL_level (.codeWith yL_level cL_level 4 (some .int) [(0, 9, 12, 13)]) 13 10 60 [.ref 0, .int v1, .ref 59] (mw_Y0, I, L) (.inl (some (.int 0), mw_Y0, J, mw_upL L 59 0 u.toInt64)) := by
  refine mw_enterH RL rfl (by decide +kernel) (mw_cat rfl) (Nat.le_of_ble_eq_true rfl) (fun X hX hl hE hT => ?_)
  subst hl
  show mw_G X 0 [some (.ref 0), some (.int v1), some (.ref 59), none] [] mw_Y0 I L 0 0
  refine mw_aload_n hX dL_level_0 rfl rfl ?_
  refine mw_ic hX 0 dL_level_1 rfl ?_
  refine mw_aload_n hX dL_level_2 rfl rfl ?_
  refine mw_iload_n hX dL_level_3 rfl rfl ?_
  refine mw_cV hX [_] ws_L_42 dL_level_4 hc (mw_Yl (by decide)) mw_YW (by decide) rfl (by omega) (by omega) (by omega) (Nat.le_of_ble_eq_true rfl) ?_
  refine mw_i2l hX dL_level_7 ?_
  refine mw_lastore hX (j := 0) dL_level_8 (mw_Yl (by decide)) rfl rfl (by decide) (by decide) ?_
  refine mw_goto hX (tgt := 15) dL_level_9 (by decide) ?_
  refine mw_ic hX 0 dL_level_15 rfl ?_
  exact mw_ireturn hX hE dL_level_16 rfl (by omega) (by omega)
set_option maxRecDepth 20000 in
theorem w_levelX (l : Launch) (v1 : Int32) (d0 mc ms : Nat) (hd : d0 < 13) (hmc : mc ≤ 10) (hms : ms ≤ 60) {I : mw_I} {L : mw_L} (hc : mw_CT l yX1_level (.code yX1_level cX1_level 2 (some .int)) d0 mc ms [.ref 0, .int v1] (mw_Y0, I, L) (.inr "java/lang/IllegalArgumentException")) : mw_CT l yL_level (.codeWith yL_level cL_level 4 (some .int) [(0, 9, 12, 13)]) 13 10 60 [.ref 0, .int v1, .ref 59] (mw_Y0, I, L) (.inl (some (.int 1), mw_Y0, I, L)) := by
  refine mw_enterH RL rfl (by decide +kernel) (mw_cat rfl) (Nat.le_of_ble_eq_true rfl) (fun X hX hl hE hT => ?_)
  subst hl
  show mw_G X 0 [some (.ref 0), some (.int v1), some (.ref 59), none] [] mw_Y0 I L 0 0
  refine mw_aload_n hX dL_level_0 rfl rfl ?_
  refine mw_ic hX 0 dL_level_1 rfl ?_
  refine mw_aload_n hX dL_level_2 rfl rfl ?_
  refine mw_iload_n hX dL_level_3 rfl rfl ?_
  refine mw_cVC hX [_] ws_L_42 dL_level_4 hc (mw_Yl (by decide)) mw_YW (by decide) rfl (by omega) (by omega) (by omega) (Nat.le_of_ble_eq_true rfl) [] ((tableOf [(0, 9, 12, 13)]).head (by decide)) [] (hT.trans rfl) (fun _ h => absurd h List.not_mem_nil) (by decide) (by decide) wk_13 (Or.inl rfl) (hp2 := 12) (i := 3) (wd := 1) rfl (Nat.le_of_ble_eq_true rfl) (Or.inl ⟨3, dL_level_12, rfl, rfl⟩) ?_
  dsimp only [List.set]
  refine mw_ic hX 1 dL_level_13 rfl ?_
  exact mw_ireturn hX hE dL_level_14 rfl (by omega) (by omega)
set_option maxRecDepth 20000 in
theorem w_travelling (l : Launch) (v1 v2 : Int32) (d0 mc ms : Nat) (hd : d0 < 13) (hmc : mc ≤ 10) (hms : ms ≤ 60) {I : mw_I} {L : mw_L} {J : mw_I} {u : Int32} (hc : mw_CT l yX1_travelling (.code yX1_travelling cX1_travelling 3 (some .int)) d0 mc ms [.ref 0, .int v1, .int v2] (mw_Y0, I, L) (.inl (some (.int u), mw_Y0, J, L))) : mw_CT l yL_travelling (.codeWith yL_travelling cL_travelling 5 (some .int) [(0, 10, 13, 13)]) 13 10 60 [.ref 0, .int v1, .int v2, .ref 59] (mw_Y0, I, L) (.inl (some (.int 0), mw_Y0, J, mw_upL L 59 0 u.toInt64)) := by
  refine mw_enterH RL rfl (by decide +kernel) (mw_cat rfl) (Nat.le_of_ble_eq_true rfl) (fun X hX hl hE hT => ?_)
  subst hl
  show mw_G X 0 [some (.ref 0), some (.int v1), some (.int v2), some (.ref 59), none] [] mw_Y0 I L 0 0
  refine mw_aload_n hX dL_travelling_0 rfl rfl ?_
  refine mw_ic hX 0 dL_travelling_1 rfl ?_
  refine mw_aload_n hX dL_travelling_2 rfl rfl ?_
  refine mw_iload_n hX dL_travelling_3 rfl rfl ?_
  refine mw_iload_n hX dL_travelling_4 rfl rfl ?_
  refine mw_cV hX [_, _] ws_L_45 dL_travelling_5 hc (mw_Yl (by decide)) mw_YW (by decide) rfl (by omega) (by omega) (by omega) (Nat.le_of_ble_eq_true rfl) ?_
  refine mw_i2l hX dL_travelling_8 ?_
  refine mw_lastore hX (j := 0) dL_travelling_9 (mw_Yl (by decide)) rfl rfl (by decide) (by decide) ?_
  refine mw_goto hX (tgt := 17) dL_travelling_10 (by decide) ?_
  refine mw_ic hX 0 dL_travelling_17 rfl ?_
  exact mw_ireturn hX hE dL_travelling_18 rfl (by omega) (by omega)
set_option maxRecDepth 20000 in
theorem w_travellingX (l : Launch) (v1 v2 : Int32) (d0 mc ms : Nat) (hd : d0 < 13) (hmc : mc ≤ 10) (hms : ms ≤ 60) {I : mw_I} {L : mw_L} (hc : mw_CT l yX1_travelling (.code yX1_travelling cX1_travelling 3 (some .int)) d0 mc ms [.ref 0, .int v1, .int v2] (mw_Y0, I, L) (.inr "java/lang/IllegalArgumentException")) : mw_CT l yL_travelling (.codeWith yL_travelling cL_travelling 5 (some .int) [(0, 10, 13, 13)]) 13 10 60 [.ref 0, .int v1, .int v2, .ref 59] (mw_Y0, I, L) (.inl (some (.int 1), mw_Y0, I, L)) := by
  refine mw_enterH RL rfl (by decide +kernel) (mw_cat rfl) (Nat.le_of_ble_eq_true rfl) (fun X hX hl hE hT => ?_)
  subst hl
  show mw_G X 0 [some (.ref 0), some (.int v1), some (.int v2), some (.ref 59), none] [] mw_Y0 I L 0 0
  refine mw_aload_n hX dL_travelling_0 rfl rfl ?_
  refine mw_ic hX 0 dL_travelling_1 rfl ?_
  refine mw_aload_n hX dL_travelling_2 rfl rfl ?_
  refine mw_iload_n hX dL_travelling_3 rfl rfl ?_
  refine mw_iload_n hX dL_travelling_4 rfl rfl ?_
  refine mw_cVC hX [_, _] ws_L_45 dL_travelling_5 hc (mw_Yl (by decide)) mw_YW (by decide) rfl (by omega) (by omega) (by omega) (Nat.le_of_ble_eq_true rfl) [] ((tableOf [(0, 10, 13, 13)]).head (by decide)) [] (hT.trans rfl) (fun _ h => absurd h List.not_mem_nil) (by decide) (by decide) wk_13 (Or.inl rfl) (hp2 := 13) (i := 4) (wd := 2) rfl (Nat.le_of_ble_eq_true rfl) (Or.inr ⟨dL_travelling_13, rfl⟩) ?_
  dsimp only [List.set]
  refine mw_ic hX 1 dL_travelling_15 rfl ?_
  exact mw_ireturn hX hE dL_travelling_16 rfl (by omega) (by omega)
set_option maxRecDepth 20000 in
theorem w_arriving (l : Launch) (v1 v2 v3 : Int32) (d0 mc ms : Nat) (hd : d0 < 13) (hmc : mc ≤ 10) (hms : ms ≤ 60) {I : mw_I} {L : mw_L} {J : mw_I} {u : Int32} (hc : mw_CT l yX1_arriving (.code yX1_arriving cX1_arriving 4 (some .int)) d0 mc ms [.ref 0, .int v1, .int v2, .int v3] (mw_Y0, I, L) (.inl (some (.int u), mw_Y0, J, L))) : mw_CT l yL_arriving (.codeWith yL_arriving cL_arriving 6 (some .int) [(0, 12, 15, 13)]) 13 10 60 [.ref 0, .int v1, .int v2, .int v3, .ref 59] (mw_Y0, I, L) (.inl (some (.int 0), mw_Y0, J, mw_upL L 59 0 u.toInt64)) := by
  refine mw_enterH RL rfl (by decide +kernel) (mw_cat rfl) (Nat.le_of_ble_eq_true rfl) (fun X hX hl hE hT => ?_)
  subst hl
  show mw_G X 0 [some (.ref 0), some (.int v1), some (.int v2), some (.int v3), some (.ref 59), none] [] mw_Y0 I L 0 0
  refine mw_aload hX dL_arriving_0 rfl ?_
  refine mw_ic hX 0 dL_arriving_2 rfl ?_
  refine mw_aload_n hX dL_arriving_3 rfl rfl ?_
  refine mw_iload_n hX dL_arriving_4 rfl rfl ?_
  refine mw_iload_n hX dL_arriving_5 rfl rfl ?_
  refine mw_iload_n hX dL_arriving_6 rfl rfl ?_
  refine mw_cV hX [_, _, _] ws_L_48 dL_arriving_7 hc (mw_Yl (by decide)) mw_YW (by decide) rfl (by omega) (by omega) (by omega) (Nat.le_of_ble_eq_true rfl) ?_
  refine mw_i2l hX dL_arriving_10 ?_
  refine mw_lastore hX (j := 0) dL_arriving_11 (mw_Yl (by decide)) rfl rfl (by decide) (by decide) ?_
  refine mw_goto hX (tgt := 19) dL_arriving_12 (by decide) ?_
  refine mw_ic hX 0 dL_arriving_19 rfl ?_
  exact mw_ireturn hX hE dL_arriving_20 rfl (by omega) (by omega)
set_option maxRecDepth 20000 in
theorem w_arrivingX (l : Launch) (v1 v2 v3 : Int32) (d0 mc ms : Nat) (hd : d0 < 13) (hmc : mc ≤ 10) (hms : ms ≤ 60) {I : mw_I} {L : mw_L} (hc : mw_CT l yX1_arriving (.code yX1_arriving cX1_arriving 4 (some .int)) d0 mc ms [.ref 0, .int v1, .int v2, .int v3] (mw_Y0, I, L) (.inr "java/lang/IllegalArgumentException")) : mw_CT l yL_arriving (.codeWith yL_arriving cL_arriving 6 (some .int) [(0, 12, 15, 13)]) 13 10 60 [.ref 0, .int v1, .int v2, .int v3, .ref 59] (mw_Y0, I, L) (.inl (some (.int 1), mw_Y0, I, L)) := by
  refine mw_enterH RL rfl (by decide +kernel) (mw_cat rfl) (Nat.le_of_ble_eq_true rfl) (fun X hX hl hE hT => ?_)
  subst hl
  show mw_G X 0 [some (.ref 0), some (.int v1), some (.int v2), some (.int v3), some (.ref 59), none] [] mw_Y0 I L 0 0
  refine mw_aload hX dL_arriving_0 rfl ?_
  refine mw_ic hX 0 dL_arriving_2 rfl ?_
  refine mw_aload_n hX dL_arriving_3 rfl rfl ?_
  refine mw_iload_n hX dL_arriving_4 rfl rfl ?_
  refine mw_iload_n hX dL_arriving_5 rfl rfl ?_
  refine mw_iload_n hX dL_arriving_6 rfl rfl ?_
  refine mw_cVC hX [_, _, _] ws_L_48 dL_arriving_7 hc (mw_Yl (by decide)) mw_YW (by decide) rfl (by omega) (by omega) (by omega) (Nat.le_of_ble_eq_true rfl) [] ((tableOf [(0, 12, 15, 13)]).head (by decide)) [] (hT.trans rfl) (fun _ h => absurd h List.not_mem_nil) (by decide) (by decide) wk_13 (Or.inl rfl) (hp2 := 15) (i := 5) (wd := 2) rfl (Nat.le_of_ble_eq_true rfl) (Or.inr ⟨dL_arriving_15, rfl⟩) ?_
  dsimp only [List.set]
  refine mw_ic hX 1 dL_arriving_17 rfl ?_
  exact mw_ireturn hX hE dL_arriving_18 rfl (by omega) (by omega)
set_option maxRecDepth 20000 in
theorem w_cameIn (l : Launch) (v1 : Int32) (d0 mc ms : Nat) (hd : d0 < 13) (hmc : mc ≤ 10) (hms : ms ≤ 60) {I : mw_I} {L : mw_L} {J : mw_I} {u : Int32} (hc : mw_CT l yX1_cameIn (.code yX1_cameIn cX1_cameIn 2 (some .int)) d0 mc ms [.ref 0, .int v1] (mw_Y0, I, L) (.inl (some (.int u), mw_Y0, J, L))) : mw_CT l yL_cameIn (.codeWith yL_cameIn cL_cameIn 4 (some .int) [(0, 9, 12, 13)]) 13 10 60 [.ref 0, .int v1, .ref 59] (mw_Y0, I, L) (.inl (some (.int 0), mw_Y0, J, mw_upL L 59 0 u.toInt64)) := by
  refine mw_enterH RL rfl (by decide +kernel) (mw_cat rfl) (Nat.le_of_ble_eq_true rfl) (fun X hX hl hE hT => ?_)
  subst hl
  show mw_G X 0 [some (.ref 0), some (.int v1), some (.ref 59), none] [] mw_Y0 I L 0 0
  refine mw_aload_n hX dL_cameIn_0 rfl rfl ?_
  refine mw_ic hX 0 dL_cameIn_1 rfl ?_
  refine mw_aload_n hX dL_cameIn_2 rfl rfl ?_
  refine mw_iload_n hX dL_cameIn_3 rfl rfl ?_
  refine mw_cV hX [_] ws_L_51 dL_cameIn_4 hc (mw_Yl (by decide)) mw_YW (by decide) rfl (by omega) (by omega) (by omega) (Nat.le_of_ble_eq_true rfl) ?_
  refine mw_i2l hX dL_cameIn_7 ?_
  refine mw_lastore hX (j := 0) dL_cameIn_8 (mw_Yl (by decide)) rfl rfl (by decide) (by decide) ?_
  refine mw_goto hX (tgt := 15) dL_cameIn_9 (by decide) ?_
  refine mw_ic hX 0 dL_cameIn_15 rfl ?_
  exact mw_ireturn hX hE dL_cameIn_16 rfl (by omega) (by omega)
set_option maxRecDepth 20000 in
theorem w_cameInX (l : Launch) (v1 : Int32) (d0 mc ms : Nat) (hd : d0 < 13) (hmc : mc ≤ 10) (hms : ms ≤ 60) {I : mw_I} {L : mw_L} (hc : mw_CT l yX1_cameIn (.code yX1_cameIn cX1_cameIn 2 (some .int)) d0 mc ms [.ref 0, .int v1] (mw_Y0, I, L) (.inr "java/lang/IllegalArgumentException")) : mw_CT l yL_cameIn (.codeWith yL_cameIn cL_cameIn 4 (some .int) [(0, 9, 12, 13)]) 13 10 60 [.ref 0, .int v1, .ref 59] (mw_Y0, I, L) (.inl (some (.int 1), mw_Y0, I, L)) := by
  refine mw_enterH RL rfl (by decide +kernel) (mw_cat rfl) (Nat.le_of_ble_eq_true rfl) (fun X hX hl hE hT => ?_)
  subst hl
  show mw_G X 0 [some (.ref 0), some (.int v1), some (.ref 59), none] [] mw_Y0 I L 0 0
  refine mw_aload_n hX dL_cameIn_0 rfl rfl ?_
  refine mw_ic hX 0 dL_cameIn_1 rfl ?_
  refine mw_aload_n hX dL_cameIn_2 rfl rfl ?_
  refine mw_iload_n hX dL_cameIn_3 rfl rfl ?_
  refine mw_cVC hX [_] ws_L_51 dL_cameIn_4 hc (mw_Yl (by decide)) mw_YW (by decide) rfl (by omega) (by omega) (by omega) (Nat.le_of_ble_eq_true rfl) [] ((tableOf [(0, 9, 12, 13)]).head (by decide)) [] (hT.trans rfl) (fun _ h => absurd h List.not_mem_nil) (by decide) (by decide) wk_13 (Or.inl rfl) (hp2 := 12) (i := 3) (wd := 1) rfl (Nat.le_of_ble_eq_true rfl) (Or.inl ⟨3, dL_cameIn_12, rfl, rfl⟩) ?_
  dsimp only [List.set]
  refine mw_ic hX 1 dL_cameIn_13 rfl ?_
  exact mw_ireturn hX hE dL_cameIn_14 rfl (by omega) (by omega)
set_option maxRecDepth 20000 in
theorem w_gone (l : Launch) (v1 : Int32) (d0 mc ms : Nat) (hd : d0 < 13) (hmc : mc ≤ 10) (hms : ms ≤ 60) {I : mw_I} {L : mw_L} {J : mw_I} {u : Int32} (hc : mw_CT l yX1_gone (.code yX1_gone cX1_gone 2 (some .int)) d0 mc ms [.ref 0, .int v1] (mw_Y0, I, L) (.inl (some (.int u), mw_Y0, J, L))) : mw_CT l yL_gone (.codeWith yL_gone cL_gone 4 (some .int) [(0, 9, 12, 13)]) 13 10 60 [.ref 0, .int v1, .ref 59] (mw_Y0, I, L) (.inl (some (.int 0), mw_Y0, J, mw_upL L 59 0 u.toInt64)) := by
  refine mw_enterH RL rfl (by decide +kernel) (mw_cat rfl) (Nat.le_of_ble_eq_true rfl) (fun X hX hl hE hT => ?_)
  subst hl
  show mw_G X 0 [some (.ref 0), some (.int v1), some (.ref 59), none] [] mw_Y0 I L 0 0
  refine mw_aload_n hX dL_gone_0 rfl rfl ?_
  refine mw_ic hX 0 dL_gone_1 rfl ?_
  refine mw_aload_n hX dL_gone_2 rfl rfl ?_
  refine mw_iload_n hX dL_gone_3 rfl rfl ?_
  refine mw_cV hX [_] ws_L_54 dL_gone_4 hc (mw_Yl (by decide)) mw_YW (by decide) rfl (by omega) (by omega) (by omega) (Nat.le_of_ble_eq_true rfl) ?_
  refine mw_i2l hX dL_gone_7 ?_
  refine mw_lastore hX (j := 0) dL_gone_8 (mw_Yl (by decide)) rfl rfl (by decide) (by decide) ?_
  refine mw_goto hX (tgt := 15) dL_gone_9 (by decide) ?_
  refine mw_ic hX 0 dL_gone_15 rfl ?_
  exact mw_ireturn hX hE dL_gone_16 rfl (by omega) (by omega)
set_option maxRecDepth 20000 in
theorem w_goneX (l : Launch) (v1 : Int32) (d0 mc ms : Nat) (hd : d0 < 13) (hmc : mc ≤ 10) (hms : ms ≤ 60) {I : mw_I} {L : mw_L} (hc : mw_CT l yX1_gone (.code yX1_gone cX1_gone 2 (some .int)) d0 mc ms [.ref 0, .int v1] (mw_Y0, I, L) (.inr "java/lang/IllegalArgumentException")) : mw_CT l yL_gone (.codeWith yL_gone cL_gone 4 (some .int) [(0, 9, 12, 13)]) 13 10 60 [.ref 0, .int v1, .ref 59] (mw_Y0, I, L) (.inl (some (.int 1), mw_Y0, I, L)) := by
  refine mw_enterH RL rfl (by decide +kernel) (mw_cat rfl) (Nat.le_of_ble_eq_true rfl) (fun X hX hl hE hT => ?_)
  subst hl
  show mw_G X 0 [some (.ref 0), some (.int v1), some (.ref 59), none] [] mw_Y0 I L 0 0
  refine mw_aload_n hX dL_gone_0 rfl rfl ?_
  refine mw_ic hX 0 dL_gone_1 rfl ?_
  refine mw_aload_n hX dL_gone_2 rfl rfl ?_
  refine mw_iload_n hX dL_gone_3 rfl rfl ?_
  refine mw_cVC hX [_] ws_L_54 dL_gone_4 hc (mw_Yl (by decide)) mw_YW (by decide) rfl (by omega) (by omega) (by omega) (Nat.le_of_ble_eq_true rfl) [] ((tableOf [(0, 9, 12, 13)]).head (by decide)) [] (hT.trans rfl) (fun _ h => absurd h List.not_mem_nil) (by decide) (by decide) wk_13 (Or.inl rfl) (hp2 := 12) (i := 3) (wd := 1) rfl (Nat.le_of_ble_eq_true rfl) (Or.inl ⟨3, dL_gone_12, rfl, rfl⟩) ?_
  dsimp only [List.set]
  refine mw_ic hX 1 dL_gone_13 rfl ?_
  exact mw_ireturn hX hE dL_gone_14 rfl (by omega) (by omega)
set_option maxRecDepth 20000 in
theorem w_balance (l : Launch) (v1 : Int32) (d0 mc ms : Nat) (hd : d0 < 13) (hmc : mc ≤ 10) (hms : ms ≤ 60) {I : mw_I} {L : mw_L} {J : mw_I} {u : Int32} (hc : mw_CT l yX1_balance (.code yX1_balance cX1_balance 2 (some .int)) d0 mc ms [.ref 0, .int v1] (mw_Y0, I, L) (.inl (some (.int u), mw_Y0, J, L))) : mw_CT l yL_balance (.codeWith yL_balance cL_balance 4 (some .int) [(0, 9, 12, 13)]) 13 10 60 [.ref 0, .int v1, .ref 59] (mw_Y0, I, L) (.inl (some (.int 0), mw_Y0, J, mw_upL L 59 0 u.toInt64)) := by
  refine mw_enterH RL rfl (by decide +kernel) (mw_cat rfl) (Nat.le_of_ble_eq_true rfl) (fun X hX hl hE hT => ?_)
  subst hl
  show mw_G X 0 [some (.ref 0), some (.int v1), some (.ref 59), none] [] mw_Y0 I L 0 0
  refine mw_aload_n hX dL_balance_0 rfl rfl ?_
  refine mw_ic hX 0 dL_balance_1 rfl ?_
  refine mw_aload_n hX dL_balance_2 rfl rfl ?_
  refine mw_iload_n hX dL_balance_3 rfl rfl ?_
  refine mw_cV hX [_] ws_L_57 dL_balance_4 hc (mw_Yl (by decide)) mw_YW (by decide) rfl (by omega) (by omega) (by omega) (Nat.le_of_ble_eq_true rfl) ?_
  refine mw_i2l hX dL_balance_7 ?_
  refine mw_lastore hX (j := 0) dL_balance_8 (mw_Yl (by decide)) rfl rfl (by decide) (by decide) ?_
  refine mw_goto hX (tgt := 15) dL_balance_9 (by decide) ?_
  refine mw_ic hX 0 dL_balance_15 rfl ?_
  exact mw_ireturn hX hE dL_balance_16 rfl (by omega) (by omega)
set_option maxRecDepth 20000 in
theorem w_balanceX (l : Launch) (v1 : Int32) (d0 mc ms : Nat) (hd : d0 < 13) (hmc : mc ≤ 10) (hms : ms ≤ 60) {I : mw_I} {L : mw_L} (hc : mw_CT l yX1_balance (.code yX1_balance cX1_balance 2 (some .int)) d0 mc ms [.ref 0, .int v1] (mw_Y0, I, L) (.inr "java/lang/IllegalArgumentException")) : mw_CT l yL_balance (.codeWith yL_balance cL_balance 4 (some .int) [(0, 9, 12, 13)]) 13 10 60 [.ref 0, .int v1, .ref 59] (mw_Y0, I, L) (.inl (some (.int 1), mw_Y0, I, L)) := by
  refine mw_enterH RL rfl (by decide +kernel) (mw_cat rfl) (Nat.le_of_ble_eq_true rfl) (fun X hX hl hE hT => ?_)
  subst hl
  show mw_G X 0 [some (.ref 0), some (.int v1), some (.ref 59), none] [] mw_Y0 I L 0 0
  refine mw_aload_n hX dL_balance_0 rfl rfl ?_
  refine mw_ic hX 0 dL_balance_1 rfl ?_
  refine mw_aload_n hX dL_balance_2 rfl rfl ?_
  refine mw_iload_n hX dL_balance_3 rfl rfl ?_
  refine mw_cVC hX [_] ws_L_57 dL_balance_4 hc (mw_Yl (by decide)) mw_YW (by decide) rfl (by omega) (by omega) (by omega) (Nat.le_of_ble_eq_true rfl) [] ((tableOf [(0, 9, 12, 13)]).head (by decide)) [] (hT.trans rfl) (fun _ h => absurd h List.not_mem_nil) (by decide) (by decide) wk_13 (Or.inl rfl) (hp2 := 12) (i := 3) (wd := 1) rfl (Nat.le_of_ble_eq_true rfl) (Or.inl ⟨3, dL_balance_12, rfl, rfl⟩) ?_
  dsimp only [List.set]
  refine mw_ic hX 1 dL_balance_13 rfl ?_
  exact mw_ireturn hX hE dL_balance_14 rfl (by omega) (by omega)
set_option maxRecDepth 20000 in
theorem w_spilled (l : Launch) (v1 : Int32) (d0 mc ms : Nat) (hd : d0 < 13) (hmc : mc ≤ 10) (hms : ms ≤ 60) {I : mw_I} {L : mw_L} {J : mw_I} {u : Int32} (hc : mw_CT l yX1_spilled (.code yX1_spilled cX1_spilled 2 (some .int)) d0 mc ms [.ref 0, .int v1] (mw_Y0, I, L) (.inl (some (.int u), mw_Y0, J, L))) : mw_CT l yL_spilled (.codeWith yL_spilled cL_spilled 4 (some .int) [(0, 9, 12, 13)]) 13 10 60 [.ref 0, .int v1, .ref 59] (mw_Y0, I, L) (.inl (some (.int 0), mw_Y0, J, mw_upL L 59 0 u.toInt64)) := by
  refine mw_enterH RL rfl (by decide +kernel) (mw_cat rfl) (Nat.le_of_ble_eq_true rfl) (fun X hX hl hE hT => ?_)
  subst hl
  show mw_G X 0 [some (.ref 0), some (.int v1), some (.ref 59), none] [] mw_Y0 I L 0 0
  refine mw_aload_n hX dL_spilled_0 rfl rfl ?_
  refine mw_ic hX 0 dL_spilled_1 rfl ?_
  refine mw_aload_n hX dL_spilled_2 rfl rfl ?_
  refine mw_iload_n hX dL_spilled_3 rfl rfl ?_
  refine mw_cV hX [_] ws_L_60 dL_spilled_4 hc (mw_Yl (by decide)) mw_YW (by decide) rfl (by omega) (by omega) (by omega) (Nat.le_of_ble_eq_true rfl) ?_
  refine mw_i2l hX dL_spilled_7 ?_
  refine mw_lastore hX (j := 0) dL_spilled_8 (mw_Yl (by decide)) rfl rfl (by decide) (by decide) ?_
  refine mw_goto hX (tgt := 15) dL_spilled_9 (by decide) ?_
  refine mw_ic hX 0 dL_spilled_15 rfl ?_
  exact mw_ireturn hX hE dL_spilled_16 rfl (by omega) (by omega)
set_option maxRecDepth 20000 in
theorem w_spilledX (l : Launch) (v1 : Int32) (d0 mc ms : Nat) (hd : d0 < 13) (hmc : mc ≤ 10) (hms : ms ≤ 60) {I : mw_I} {L : mw_L} (hc : mw_CT l yX1_spilled (.code yX1_spilled cX1_spilled 2 (some .int)) d0 mc ms [.ref 0, .int v1] (mw_Y0, I, L) (.inr "java/lang/IllegalArgumentException")) : mw_CT l yL_spilled (.codeWith yL_spilled cL_spilled 4 (some .int) [(0, 9, 12, 13)]) 13 10 60 [.ref 0, .int v1, .ref 59] (mw_Y0, I, L) (.inl (some (.int 1), mw_Y0, I, L)) := by
  refine mw_enterH RL rfl (by decide +kernel) (mw_cat rfl) (Nat.le_of_ble_eq_true rfl) (fun X hX hl hE hT => ?_)
  subst hl
  show mw_G X 0 [some (.ref 0), some (.int v1), some (.ref 59), none] [] mw_Y0 I L 0 0
  refine mw_aload_n hX dL_spilled_0 rfl rfl ?_
  refine mw_ic hX 0 dL_spilled_1 rfl ?_
  refine mw_aload_n hX dL_spilled_2 rfl rfl ?_
  refine mw_iload_n hX dL_spilled_3 rfl rfl ?_
  refine mw_cVC hX [_] ws_L_60 dL_spilled_4 hc (mw_Yl (by decide)) mw_YW (by decide) rfl (by omega) (by omega) (by omega) (Nat.le_of_ble_eq_true rfl) [] ((tableOf [(0, 9, 12, 13)]).head (by decide)) [] (hT.trans rfl) (fun _ h => absurd h List.not_mem_nil) (by decide) (by decide) wk_13 (Or.inl rfl) (hp2 := 12) (i := 3) (wd := 1) rfl (Nat.le_of_ble_eq_true rfl) (Or.inl ⟨3, dL_spilled_12, rfl, rfl⟩) ?_
  dsimp only [List.set]
  refine mw_ic hX 1 dL_spilled_13 rfl ?_
  exact mw_ireturn hX hE dL_spilled_14 rfl (by omega) (by omega)
set_option maxRecDepth 20000 in
theorem w_missed (l : Launch) (v1 : Int32) (d0 mc ms : Nat) (hd : d0 < 13) (hmc : mc ≤ 10) (hms : ms ≤ 60) {I : mw_I} {L : mw_L} {J : mw_I} {u : Int32} (hc : mw_CT l yX1_missed (.code yX1_missed cX1_missed 2 (some .int)) d0 mc ms [.ref 0, .int v1] (mw_Y0, I, L) (.inl (some (.int u), mw_Y0, J, L))) : mw_CT l yL_missed (.codeWith yL_missed cL_missed 4 (some .int) [(0, 9, 12, 13)]) 13 10 60 [.ref 0, .int v1, .ref 59] (mw_Y0, I, L) (.inl (some (.int 0), mw_Y0, J, mw_upL L 59 0 u.toInt64)) := by
  refine mw_enterH RL rfl (by decide +kernel) (mw_cat rfl) (Nat.le_of_ble_eq_true rfl) (fun X hX hl hE hT => ?_)
  subst hl
  show mw_G X 0 [some (.ref 0), some (.int v1), some (.ref 59), none] [] mw_Y0 I L 0 0
  refine mw_aload_n hX dL_missed_0 rfl rfl ?_
  refine mw_ic hX 0 dL_missed_1 rfl ?_
  refine mw_aload_n hX dL_missed_2 rfl rfl ?_
  refine mw_iload_n hX dL_missed_3 rfl rfl ?_
  refine mw_cV hX [_] ws_L_63 dL_missed_4 hc (mw_Yl (by decide)) mw_YW (by decide) rfl (by omega) (by omega) (by omega) (Nat.le_of_ble_eq_true rfl) ?_
  refine mw_i2l hX dL_missed_7 ?_
  refine mw_lastore hX (j := 0) dL_missed_8 (mw_Yl (by decide)) rfl rfl (by decide) (by decide) ?_
  refine mw_goto hX (tgt := 15) dL_missed_9 (by decide) ?_
  refine mw_ic hX 0 dL_missed_15 rfl ?_
  exact mw_ireturn hX hE dL_missed_16 rfl (by omega) (by omega)
set_option maxRecDepth 20000 in
theorem w_missedX (l : Launch) (v1 : Int32) (d0 mc ms : Nat) (hd : d0 < 13) (hmc : mc ≤ 10) (hms : ms ≤ 60) {I : mw_I} {L : mw_L} (hc : mw_CT l yX1_missed (.code yX1_missed cX1_missed 2 (some .int)) d0 mc ms [.ref 0, .int v1] (mw_Y0, I, L) (.inr "java/lang/IllegalArgumentException")) : mw_CT l yL_missed (.codeWith yL_missed cL_missed 4 (some .int) [(0, 9, 12, 13)]) 13 10 60 [.ref 0, .int v1, .ref 59] (mw_Y0, I, L) (.inl (some (.int 1), mw_Y0, I, L)) := by
  refine mw_enterH RL rfl (by decide +kernel) (mw_cat rfl) (Nat.le_of_ble_eq_true rfl) (fun X hX hl hE hT => ?_)
  subst hl
  show mw_G X 0 [some (.ref 0), some (.int v1), some (.ref 59), none] [] mw_Y0 I L 0 0
  refine mw_aload_n hX dL_missed_0 rfl rfl ?_
  refine mw_ic hX 0 dL_missed_1 rfl ?_
  refine mw_aload_n hX dL_missed_2 rfl rfl ?_
  refine mw_iload_n hX dL_missed_3 rfl rfl ?_
  refine mw_cVC hX [_] ws_L_63 dL_missed_4 hc (mw_Yl (by decide)) mw_YW (by decide) rfl (by omega) (by omega) (by omega) (Nat.le_of_ble_eq_true rfl) [] ((tableOf [(0, 9, 12, 13)]).head (by decide)) [] (hT.trans rfl) (fun _ h => absurd h List.not_mem_nil) (by decide) (by decide) wk_13 (Or.inl rfl) (hp2 := 12) (i := 3) (wd := 1) rfl (Nat.le_of_ble_eq_true rfl) (Or.inl ⟨3, dL_missed_12, rfl, rfl⟩) ?_
  dsimp only [List.set]
  refine mw_ic hX 1 dL_missed_13 rfl ?_
  exact mw_ireturn hX hE dL_missed_14 rfl (by omega) (by omega)
set_option maxRecDepth 20000 in
theorem w_flow (l : Launch) (v1 : Int32) (d0 mc ms : Nat) (hd : d0 < 13) (hmc : mc ≤ 10) (hms : ms ≤ 60) {I : mw_I} {L : mw_L} {J : mw_I} {u : Int32} (hc : mw_CT l yX1_flow (.code yX1_flow cX1_flow 2 (some .int)) d0 mc ms [.ref 0, .int v1] (mw_Y0, I, L) (.inl (some (.int u), mw_Y0, J, L))) : mw_CT l yL_flow (.codeWith yL_flow cL_flow 4 (some .int) [(0, 9, 12, 13)]) 13 10 60 [.ref 0, .int v1, .ref 59] (mw_Y0, I, L) (.inl (some (.int 0), mw_Y0, J, mw_upL L 59 0 u.toInt64)) := by
  refine mw_enterH RL rfl (by decide +kernel) (mw_cat rfl) (Nat.le_of_ble_eq_true rfl) (fun X hX hl hE hT => ?_)
  subst hl
  show mw_G X 0 [some (.ref 0), some (.int v1), some (.ref 59), none] [] mw_Y0 I L 0 0
  refine mw_aload_n hX dL_flow_0 rfl rfl ?_
  refine mw_ic hX 0 dL_flow_1 rfl ?_
  refine mw_aload_n hX dL_flow_2 rfl rfl ?_
  refine mw_iload_n hX dL_flow_3 rfl rfl ?_
  refine mw_cV hX [_] ws_L_66 dL_flow_4 hc (mw_Yl (by decide)) mw_YW (by decide) rfl (by omega) (by omega) (by omega) (Nat.le_of_ble_eq_true rfl) ?_
  refine mw_i2l hX dL_flow_7 ?_
  refine mw_lastore hX (j := 0) dL_flow_8 (mw_Yl (by decide)) rfl rfl (by decide) (by decide) ?_
  refine mw_goto hX (tgt := 15) dL_flow_9 (by decide) ?_
  refine mw_ic hX 0 dL_flow_15 rfl ?_
  exact mw_ireturn hX hE dL_flow_16 rfl (by omega) (by omega)
set_option maxRecDepth 20000 in
theorem w_flowX (l : Launch) (v1 : Int32) (d0 mc ms : Nat) (hd : d0 < 13) (hmc : mc ≤ 10) (hms : ms ≤ 60) {I : mw_I} {L : mw_L} (hc : mw_CT l yX1_flow (.code yX1_flow cX1_flow 2 (some .int)) d0 mc ms [.ref 0, .int v1] (mw_Y0, I, L) (.inr "java/lang/IllegalArgumentException")) : mw_CT l yL_flow (.codeWith yL_flow cL_flow 4 (some .int) [(0, 9, 12, 13)]) 13 10 60 [.ref 0, .int v1, .ref 59] (mw_Y0, I, L) (.inl (some (.int 1), mw_Y0, I, L)) := by
  refine mw_enterH RL rfl (by decide +kernel) (mw_cat rfl) (Nat.le_of_ble_eq_true rfl) (fun X hX hl hE hT => ?_)
  subst hl
  show mw_G X 0 [some (.ref 0), some (.int v1), some (.ref 59), none] [] mw_Y0 I L 0 0
  refine mw_aload_n hX dL_flow_0 rfl rfl ?_
  refine mw_ic hX 0 dL_flow_1 rfl ?_
  refine mw_aload_n hX dL_flow_2 rfl rfl ?_
  refine mw_iload_n hX dL_flow_3 rfl rfl ?_
  refine mw_cVC hX [_] ws_L_66 dL_flow_4 hc (mw_Yl (by decide)) mw_YW (by decide) rfl (by omega) (by omega) (by omega) (Nat.le_of_ble_eq_true rfl) [] ((tableOf [(0, 9, 12, 13)]).head (by decide)) [] (hT.trans rfl) (fun _ h => absurd h List.not_mem_nil) (by decide) (by decide) wk_13 (Or.inl rfl) (hp2 := 12) (i := 3) (wd := 1) rfl (Nat.le_of_ble_eq_true rfl) (Or.inl ⟨3, dL_flow_12, rfl, rfl⟩) ?_
  dsimp only [List.set]
  refine mw_ic hX 1 dL_flow_13 rfl ?_
  exact mw_ireturn hX hE dL_flow_14 rfl (by omega) (by omega)
set_option maxRecDepth 20000 in
theorem w_energy (l : Launch) (v1 : Int32) (d0 mc ms : Nat) (hd : d0 < 13) (hmc : mc ≤ 10) (hms : ms ≤ 60) {I : mw_I} {L : mw_L} {J : mw_I} {u : Int32} (hc : mw_CT l yX1_energy (.code yX1_energy cX1_energy 2 (some .int)) d0 mc ms [.ref 0, .int v1] (mw_Y0, I, L) (.inl (some (.int u), mw_Y0, J, L))) : mw_CT l yL_energy (.codeWith yL_energy cL_energy 4 (some .int) [(0, 9, 12, 13)]) 13 10 60 [.ref 0, .int v1, .ref 59] (mw_Y0, I, L) (.inl (some (.int 0), mw_Y0, J, mw_upL L 59 0 u.toInt64)) := by
  refine mw_enterH RL rfl (by decide +kernel) (mw_cat rfl) (Nat.le_of_ble_eq_true rfl) (fun X hX hl hE hT => ?_)
  subst hl
  show mw_G X 0 [some (.ref 0), some (.int v1), some (.ref 59), none] [] mw_Y0 I L 0 0
  refine mw_aload_n hX dL_energy_0 rfl rfl ?_
  refine mw_ic hX 0 dL_energy_1 rfl ?_
  refine mw_aload_n hX dL_energy_2 rfl rfl ?_
  refine mw_iload_n hX dL_energy_3 rfl rfl ?_
  refine mw_cV hX [_] ws_L_69 dL_energy_4 hc (mw_Yl (by decide)) mw_YW (by decide) rfl (by omega) (by omega) (by omega) (Nat.le_of_ble_eq_true rfl) ?_
  refine mw_i2l hX dL_energy_7 ?_
  refine mw_lastore hX (j := 0) dL_energy_8 (mw_Yl (by decide)) rfl rfl (by decide) (by decide) ?_
  refine mw_goto hX (tgt := 15) dL_energy_9 (by decide) ?_
  refine mw_ic hX 0 dL_energy_15 rfl ?_
  exact mw_ireturn hX hE dL_energy_16 rfl (by omega) (by omega)
set_option maxRecDepth 20000 in
theorem w_energyX (l : Launch) (v1 : Int32) (d0 mc ms : Nat) (hd : d0 < 13) (hmc : mc ≤ 10) (hms : ms ≤ 60) {I : mw_I} {L : mw_L} (hc : mw_CT l yX1_energy (.code yX1_energy cX1_energy 2 (some .int)) d0 mc ms [.ref 0, .int v1] (mw_Y0, I, L) (.inr "java/lang/IllegalArgumentException")) : mw_CT l yL_energy (.codeWith yL_energy cL_energy 4 (some .int) [(0, 9, 12, 13)]) 13 10 60 [.ref 0, .int v1, .ref 59] (mw_Y0, I, L) (.inl (some (.int 1), mw_Y0, I, L)) := by
  refine mw_enterH RL rfl (by decide +kernel) (mw_cat rfl) (Nat.le_of_ble_eq_true rfl) (fun X hX hl hE hT => ?_)
  subst hl
  show mw_G X 0 [some (.ref 0), some (.int v1), some (.ref 59), none] [] mw_Y0 I L 0 0
  refine mw_aload_n hX dL_energy_0 rfl rfl ?_
  refine mw_ic hX 0 dL_energy_1 rfl ?_
  refine mw_aload_n hX dL_energy_2 rfl rfl ?_
  refine mw_iload_n hX dL_energy_3 rfl rfl ?_
  refine mw_cVC hX [_] ws_L_69 dL_energy_4 hc (mw_Yl (by decide)) mw_YW (by decide) rfl (by omega) (by omega) (by omega) (Nat.le_of_ble_eq_true rfl) [] ((tableOf [(0, 9, 12, 13)]).head (by decide)) [] (hT.trans rfl) (fun _ h => absurd h List.not_mem_nil) (by decide) (by decide) wk_13 (Or.inl rfl) (hp2 := 12) (i := 3) (wd := 1) rfl (Nat.le_of_ble_eq_true rfl) (Or.inl ⟨3, dL_energy_12, rfl, rfl⟩) ?_
  dsimp only [List.set]
  refine mw_ic hX 1 dL_energy_13 rfl ?_
  exact mw_ireturn hX hE dL_energy_14 rfl (by omega) (by omega)
set_option maxRecDepth 20000 in
theorem w_mix (l : Launch) (v1 v2 : Int32) (d0 mc ms : Nat) (hd : d0 < 13) (hmc : mc ≤ 10) (hms : ms ≤ 60) {I : mw_I} {L : mw_L} {J : mw_I} {u : Int32} (hc : mw_CT l yX1_mix (.code yX1_mix cX1_mix 3 (some .int)) d0 mc ms [.ref 0, .int v1, .int v2] (mw_Y0, I, L) (.inl (some (.int u), mw_Y0, J, L))) : mw_CT l yL_mix (.codeWith yL_mix cL_mix 5 (some .int) [(0, 10, 13, 13)]) 13 10 60 [.ref 0, .int v1, .int v2, .ref 59] (mw_Y0, I, L) (.inl (some (.int 0), mw_Y0, J, mw_upL L 59 0 u.toInt64)) := by
  refine mw_enterH RL rfl (by decide +kernel) (mw_cat rfl) (Nat.le_of_ble_eq_true rfl) (fun X hX hl hE hT => ?_)
  subst hl
  show mw_G X 0 [some (.ref 0), some (.int v1), some (.int v2), some (.ref 59), none] [] mw_Y0 I L 0 0
  refine mw_aload_n hX dL_mix_0 rfl rfl ?_
  refine mw_ic hX 0 dL_mix_1 rfl ?_
  refine mw_aload_n hX dL_mix_2 rfl rfl ?_
  refine mw_iload_n hX dL_mix_3 rfl rfl ?_
  refine mw_iload_n hX dL_mix_4 rfl rfl ?_
  refine mw_cV hX [_, _] ws_L_72 dL_mix_5 hc (mw_Yl (by decide)) mw_YW (by decide) rfl (by omega) (by omega) (by omega) (Nat.le_of_ble_eq_true rfl) ?_
  refine mw_i2l hX dL_mix_8 ?_
  refine mw_lastore hX (j := 0) dL_mix_9 (mw_Yl (by decide)) rfl rfl (by decide) (by decide) ?_
  refine mw_goto hX (tgt := 17) dL_mix_10 (by decide) ?_
  refine mw_ic hX 0 dL_mix_17 rfl ?_
  exact mw_ireturn hX hE dL_mix_18 rfl (by omega) (by omega)
set_option maxRecDepth 20000 in
theorem w_mixX (l : Launch) (v1 v2 : Int32) (d0 mc ms : Nat) (hd : d0 < 13) (hmc : mc ≤ 10) (hms : ms ≤ 60) {I : mw_I} {L : mw_L} (hc : mw_CT l yX1_mix (.code yX1_mix cX1_mix 3 (some .int)) d0 mc ms [.ref 0, .int v1, .int v2] (mw_Y0, I, L) (.inr "java/lang/IllegalArgumentException")) : mw_CT l yL_mix (.codeWith yL_mix cL_mix 5 (some .int) [(0, 10, 13, 13)]) 13 10 60 [.ref 0, .int v1, .int v2, .ref 59] (mw_Y0, I, L) (.inl (some (.int 1), mw_Y0, I, L)) := by
  refine mw_enterH RL rfl (by decide +kernel) (mw_cat rfl) (Nat.le_of_ble_eq_true rfl) (fun X hX hl hE hT => ?_)
  subst hl
  show mw_G X 0 [some (.ref 0), some (.int v1), some (.int v2), some (.ref 59), none] [] mw_Y0 I L 0 0
  refine mw_aload_n hX dL_mix_0 rfl rfl ?_
  refine mw_ic hX 0 dL_mix_1 rfl ?_
  refine mw_aload_n hX dL_mix_2 rfl rfl ?_
  refine mw_iload_n hX dL_mix_3 rfl rfl ?_
  refine mw_iload_n hX dL_mix_4 rfl rfl ?_
  refine mw_cVC hX [_, _] ws_L_72 dL_mix_5 hc (mw_Yl (by decide)) mw_YW (by decide) rfl (by omega) (by omega) (by omega) (Nat.le_of_ble_eq_true rfl) [] ((tableOf [(0, 10, 13, 13)]).head (by decide)) [] (hT.trans rfl) (fun _ h => absurd h List.not_mem_nil) (by decide) (by decide) wk_13 (Or.inl rfl) (hp2 := 13) (i := 4) (wd := 2) rfl (Nat.le_of_ble_eq_true rfl) (Or.inr ⟨dL_mix_13, rfl⟩) ?_
  dsimp only [List.set]
  refine mw_ic hX 1 dL_mix_15 rfl ?_
  exact mw_ireturn hX hE dL_mix_16 rfl (by omega) (by omega)
set_option maxRecDepth 20000 in
theorem w_bestEnergy (l : Launch) (v1 : Int32) (d0 mc ms : Nat) (hd : d0 < 13) (hmc : mc ≤ 10) (hms : ms ≤ 60) {I : mw_I} {L : mw_L} {J : mw_I} {u : Int32} (hc : mw_CT l yX1_bestEnergy (.code yX1_bestEnergy cX1_bestEnergy 2 (some .int)) d0 mc ms [.ref 0, .int v1] (mw_Y0, I, L) (.inl (some (.int u), mw_Y0, J, L))) : mw_CT l yL_bestEnergy (.codeWith yL_bestEnergy cL_bestEnergy 4 (some .int) [(0, 9, 12, 13)]) 13 10 60 [.ref 0, .int v1, .ref 59] (mw_Y0, I, L) (.inl (some (.int 0), mw_Y0, J, mw_upL L 59 0 u.toInt64)) := by
  refine mw_enterH RL rfl (by decide +kernel) (mw_cat rfl) (Nat.le_of_ble_eq_true rfl) (fun X hX hl hE hT => ?_)
  subst hl
  show mw_G X 0 [some (.ref 0), some (.int v1), some (.ref 59), none] [] mw_Y0 I L 0 0
  refine mw_aload_n hX dL_bestEnergy_0 rfl rfl ?_
  refine mw_ic hX 0 dL_bestEnergy_1 rfl ?_
  refine mw_aload_n hX dL_bestEnergy_2 rfl rfl ?_
  refine mw_iload_n hX dL_bestEnergy_3 rfl rfl ?_
  refine mw_cV hX [_] ws_L_75 dL_bestEnergy_4 hc (mw_Yl (by decide)) mw_YW (by decide) rfl (by omega) (by omega) (by omega) (Nat.le_of_ble_eq_true rfl) ?_
  refine mw_i2l hX dL_bestEnergy_7 ?_
  refine mw_lastore hX (j := 0) dL_bestEnergy_8 (mw_Yl (by decide)) rfl rfl (by decide) (by decide) ?_
  refine mw_goto hX (tgt := 15) dL_bestEnergy_9 (by decide) ?_
  refine mw_ic hX 0 dL_bestEnergy_15 rfl ?_
  exact mw_ireturn hX hE dL_bestEnergy_16 rfl (by omega) (by omega)
set_option maxRecDepth 20000 in
theorem w_bestEnergyX (l : Launch) (v1 : Int32) (d0 mc ms : Nat) (hd : d0 < 13) (hmc : mc ≤ 10) (hms : ms ≤ 60) {I : mw_I} {L : mw_L} (hc : mw_CT l yX1_bestEnergy (.code yX1_bestEnergy cX1_bestEnergy 2 (some .int)) d0 mc ms [.ref 0, .int v1] (mw_Y0, I, L) (.inr "java/lang/IllegalArgumentException")) : mw_CT l yL_bestEnergy (.codeWith yL_bestEnergy cL_bestEnergy 4 (some .int) [(0, 9, 12, 13)]) 13 10 60 [.ref 0, .int v1, .ref 59] (mw_Y0, I, L) (.inl (some (.int 1), mw_Y0, I, L)) := by
  refine mw_enterH RL rfl (by decide +kernel) (mw_cat rfl) (Nat.le_of_ble_eq_true rfl) (fun X hX hl hE hT => ?_)
  subst hl
  show mw_G X 0 [some (.ref 0), some (.int v1), some (.ref 59), none] [] mw_Y0 I L 0 0
  refine mw_aload_n hX dL_bestEnergy_0 rfl rfl ?_
  refine mw_ic hX 0 dL_bestEnergy_1 rfl ?_
  refine mw_aload_n hX dL_bestEnergy_2 rfl rfl ?_
  refine mw_iload_n hX dL_bestEnergy_3 rfl rfl ?_
  refine mw_cVC hX [_] ws_L_75 dL_bestEnergy_4 hc (mw_Yl (by decide)) mw_YW (by decide) rfl (by omega) (by omega) (by omega) (Nat.le_of_ble_eq_true rfl) [] ((tableOf [(0, 9, 12, 13)]).head (by decide)) [] (hT.trans rfl) (fun _ h => absurd h List.not_mem_nil) (by decide) (by decide) wk_13 (Or.inl rfl) (hp2 := 12) (i := 3) (wd := 1) rfl (Nat.le_of_ble_eq_true rfl) (Or.inl ⟨3, dL_bestEnergy_12, rfl, rfl⟩) ?_
  dsimp only [List.set]
  refine mw_ic hX 1 dL_bestEnergy_13 rfl ?_
  exact mw_ireturn hX hE dL_bestEnergy_14 rfl (by omega) (by omega)
set_option maxRecDepth 20000 in
theorem w_bestEnergyByAll (l : Launch) (v1 : Int32) (d0 mc ms : Nat) (hd : d0 < 13) (hmc : mc ≤ 10) (hms : ms ≤ 60) {I : mw_I} {L : mw_L} {J : mw_I} {u : Int32} (hc : mw_CT l yX1_bestEnergyByAll (.code yX1_bestEnergyByAll cX1_bestEnergyByAll 2 (some .int)) d0 mc ms [.ref 0, .int v1] (mw_Y0, I, L) (.inl (some (.int u), mw_Y0, J, L))) : mw_CT l yL_bestEnergyByAll (.codeWith yL_bestEnergyByAll cL_bestEnergyByAll 4 (some .int) [(0, 9, 12, 13)]) 13 10 60 [.ref 0, .int v1, .ref 59] (mw_Y0, I, L) (.inl (some (.int 0), mw_Y0, J, mw_upL L 59 0 u.toInt64)) := by
  refine mw_enterH RL rfl (by decide +kernel) (mw_cat rfl) (Nat.le_of_ble_eq_true rfl) (fun X hX hl hE hT => ?_)
  subst hl
  show mw_G X 0 [some (.ref 0), some (.int v1), some (.ref 59), none] [] mw_Y0 I L 0 0
  refine mw_aload_n hX dL_bestEnergyByAll_0 rfl rfl ?_
  refine mw_ic hX 0 dL_bestEnergyByAll_1 rfl ?_
  refine mw_aload_n hX dL_bestEnergyByAll_2 rfl rfl ?_
  refine mw_iload_n hX dL_bestEnergyByAll_3 rfl rfl ?_
  refine mw_cV hX [_] ws_L_78 dL_bestEnergyByAll_4 hc (mw_Yl (by decide)) mw_YW (by decide) rfl (by omega) (by omega) (by omega) (Nat.le_of_ble_eq_true rfl) ?_
  refine mw_i2l hX dL_bestEnergyByAll_7 ?_
  refine mw_lastore hX (j := 0) dL_bestEnergyByAll_8 (mw_Yl (by decide)) rfl rfl (by decide) (by decide) ?_
  refine mw_goto hX (tgt := 15) dL_bestEnergyByAll_9 (by decide) ?_
  refine mw_ic hX 0 dL_bestEnergyByAll_15 rfl ?_
  exact mw_ireturn hX hE dL_bestEnergyByAll_16 rfl (by omega) (by omega)
set_option maxRecDepth 20000 in
theorem w_bestEnergyByAllX (l : Launch) (v1 : Int32) (d0 mc ms : Nat) (hd : d0 < 13) (hmc : mc ≤ 10) (hms : ms ≤ 60) {I : mw_I} {L : mw_L} (hc : mw_CT l yX1_bestEnergyByAll (.code yX1_bestEnergyByAll cX1_bestEnergyByAll 2 (some .int)) d0 mc ms [.ref 0, .int v1] (mw_Y0, I, L) (.inr "java/lang/IllegalArgumentException")) : mw_CT l yL_bestEnergyByAll (.codeWith yL_bestEnergyByAll cL_bestEnergyByAll 4 (some .int) [(0, 9, 12, 13)]) 13 10 60 [.ref 0, .int v1, .ref 59] (mw_Y0, I, L) (.inl (some (.int 1), mw_Y0, I, L)) := by
  refine mw_enterH RL rfl (by decide +kernel) (mw_cat rfl) (Nat.le_of_ble_eq_true rfl) (fun X hX hl hE hT => ?_)
  subst hl
  show mw_G X 0 [some (.ref 0), some (.int v1), some (.ref 59), none] [] mw_Y0 I L 0 0
  refine mw_aload_n hX dL_bestEnergyByAll_0 rfl rfl ?_
  refine mw_ic hX 0 dL_bestEnergyByAll_1 rfl ?_
  refine mw_aload_n hX dL_bestEnergyByAll_2 rfl rfl ?_
  refine mw_iload_n hX dL_bestEnergyByAll_3 rfl rfl ?_
  refine mw_cVC hX [_] ws_L_78 dL_bestEnergyByAll_4 hc (mw_Yl (by decide)) mw_YW (by decide) rfl (by omega) (by omega) (by omega) (Nat.le_of_ble_eq_true rfl) [] ((tableOf [(0, 9, 12, 13)]).head (by decide)) [] (hT.trans rfl) (fun _ h => absurd h List.not_mem_nil) (by decide) (by decide) wk_13 (Or.inl rfl) (hp2 := 12) (i := 3) (wd := 1) rfl (Nat.le_of_ble_eq_true rfl) (Or.inl ⟨3, dL_bestEnergyByAll_12, rfl, rfl⟩) ?_
  dsimp only [List.set]
  refine mw_ic hX 1 dL_bestEnergyByAll_13 rfl ?_
  exact mw_ireturn hX hE dL_bestEnergyByAll_14 rfl (by omega) (by omega)
set_option maxRecDepth 20000 in
theorem w_bestRelease (l : Launch) (v1 : Int32) (d0 mc ms : Nat) (hd : d0 < 13) (hmc : mc ≤ 10) (hms : ms ≤ 60) {I : mw_I} {L : mw_L} {J : mw_I} {u : Int32} (hc : mw_CT l yX1_bestRelease (.code yX1_bestRelease cX1_bestRelease 2 (some .int)) d0 mc ms [.ref 0, .int v1] (mw_Y0, I, L) (.inl (some (.int u), mw_Y0, J, L))) : mw_CT l yL_bestRelease (.codeWith yL_bestRelease cL_bestRelease 4 (some .int) [(0, 9, 12, 13)]) 13 10 60 [.ref 0, .int v1, .ref 59] (mw_Y0, I, L) (.inl (some (.int 0), mw_Y0, J, mw_upL L 59 0 u.toInt64)) := by
  refine mw_enterH RL rfl (by decide +kernel) (mw_cat rfl) (Nat.le_of_ble_eq_true rfl) (fun X hX hl hE hT => ?_)
  subst hl
  show mw_G X 0 [some (.ref 0), some (.int v1), some (.ref 59), none] [] mw_Y0 I L 0 0
  refine mw_aload_n hX dL_bestRelease_0 rfl rfl ?_
  refine mw_ic hX 0 dL_bestRelease_1 rfl ?_
  refine mw_aload_n hX dL_bestRelease_2 rfl rfl ?_
  refine mw_iload_n hX dL_bestRelease_3 rfl rfl ?_
  refine mw_cV hX [_] ws_L_81 dL_bestRelease_4 hc (mw_Yl (by decide)) mw_YW (by decide) rfl (by omega) (by omega) (by omega) (Nat.le_of_ble_eq_true rfl) ?_
  refine mw_i2l hX dL_bestRelease_7 ?_
  refine mw_lastore hX (j := 0) dL_bestRelease_8 (mw_Yl (by decide)) rfl rfl (by decide) (by decide) ?_
  refine mw_goto hX (tgt := 15) dL_bestRelease_9 (by decide) ?_
  refine mw_ic hX 0 dL_bestRelease_15 rfl ?_
  exact mw_ireturn hX hE dL_bestRelease_16 rfl (by omega) (by omega)
set_option maxRecDepth 20000 in
theorem w_bestReleaseX (l : Launch) (v1 : Int32) (d0 mc ms : Nat) (hd : d0 < 13) (hmc : mc ≤ 10) (hms : ms ≤ 60) {I : mw_I} {L : mw_L} (hc : mw_CT l yX1_bestRelease (.code yX1_bestRelease cX1_bestRelease 2 (some .int)) d0 mc ms [.ref 0, .int v1] (mw_Y0, I, L) (.inr "java/lang/IllegalArgumentException")) : mw_CT l yL_bestRelease (.codeWith yL_bestRelease cL_bestRelease 4 (some .int) [(0, 9, 12, 13)]) 13 10 60 [.ref 0, .int v1, .ref 59] (mw_Y0, I, L) (.inl (some (.int 1), mw_Y0, I, L)) := by
  refine mw_enterH RL rfl (by decide +kernel) (mw_cat rfl) (Nat.le_of_ble_eq_true rfl) (fun X hX hl hE hT => ?_)
  subst hl
  show mw_G X 0 [some (.ref 0), some (.int v1), some (.ref 59), none] [] mw_Y0 I L 0 0
  refine mw_aload_n hX dL_bestRelease_0 rfl rfl ?_
  refine mw_ic hX 0 dL_bestRelease_1 rfl ?_
  refine mw_aload_n hX dL_bestRelease_2 rfl rfl ?_
  refine mw_iload_n hX dL_bestRelease_3 rfl rfl ?_
  refine mw_cVC hX [_] ws_L_81 dL_bestRelease_4 hc (mw_Yl (by decide)) mw_YW (by decide) rfl (by omega) (by omega) (by omega) (Nat.le_of_ble_eq_true rfl) [] ((tableOf [(0, 9, 12, 13)]).head (by decide)) [] (hT.trans rfl) (fun _ h => absurd h List.not_mem_nil) (by decide) (by decide) wk_13 (Or.inl rfl) (hp2 := 12) (i := 3) (wd := 1) rfl (Nat.le_of_ble_eq_true rfl) (Or.inl ⟨3, dL_bestRelease_12, rfl, rfl⟩) ?_
  dsimp only [List.set]
  refine mw_ic hX 1 dL_bestRelease_13 rfl ?_
  exact mw_ireturn hX hE dL_bestRelease_14 rfl (by omega) (by omega)
