/-! cuts (by program: wip/p26/gen63.py) -/
set_option maxRecDepth 20000 in
theorem l_cuts (l : Launch) : mw_CT l yL_cuts (.code yL_cuts cL_cuts 1 (some .boolean)) 15 1567 9999 [] (mw_yl [], mw_I0, mw_L0) (.inl (some (.int (nI 1)), mw_yl [], mw_I0, mw_L0)) := by
  refine mw_enter RL rfl (by decide +kernel) (mw_cat rfl) (Nat.le_of_ble_eq_true rfl) (fun X hX hl hE hT hnm => ?_)
  subst hl
  have hA : ([] : List mw_B).length = 0 := rfl
  show mw_G X 0 [none] [] (mw_yl ([] ++ [])) mw_I0 mw_L0 0 0
  refine gy_new hX hA (q := 1) (a := 0) (by decide) dL_cuts_0 wn_L_8 (Nat.le_of_ble_eq_true rfl) (Nat.le_of_ble_eq_true rfl) rfl (oL_none oL_nil) oS_nil rfl (t' := [((5, 0), [none, none, none, none, none, none, none])]) rfl ?_
  refine mw_le (n' := 1) (k' := 7) (Nat.le_of_ble_eq_true rfl) (Nat.le_of_ble_eq_true rfl) ?_
  refine mw_dupR hX dL_cuts_3 ?_
  refine mw_cI hX [] ws_L_99 dL_cuts_4 (c_initW (mw_l X)) rfl (by decide) (Nat.le_of_ble_eq_true rfl) (Nat.le_of_ble_eq_true rfl) (Nat.le_of_ble_eq_true rfl) (oL_none oL_nil) (oS_cons (okr (by decide)) oS_nil) ?_
  refine mw_le (n' := 40) (k' := 637) (Nat.le_of_ble_eq_true rfl) (Nat.le_of_ble_eq_true rfl) ?_
  refine mw_relay (y' := mw_Y0) rfl gy_end ?_
  refine mw_mem st0_eq ?_
  refine mw_astore_n hX dL_cuts_7 rfl (Nat.le_of_ble_eq_true rfl) ?_
  dsimp only [List.set]
  refine mw_aload_n hX dL_cuts_8 rfl rfl ?_
  refine mw_ic hX (nI 2) dL_cuts_9 rfl ?_
  refine mw_ic hX (nI 5) dL_cuts_10 rfl ?_
  refine mw_bp hX (nI 100) dL_cuts_11 rfl ?_
  refine mw_cV hX [_, _, _] ws_L_15 dL_cuts_13 (c_setInflow (mw_l X) 2 (by decide) (nI 5) (nI 100) (by unfold okR; decide) (by unfold okR; decide) st0 mw_L0) (mw_Yl (by decide)) mw_YW (by decide) rfl (by decide) (Nat.le_of_ble_eq_true rfl) (Nat.le_of_ble_eq_true rfl) (Nat.le_of_ble_eq_true rfl) ?_
  refine mw_mem cu1_s ?_
  refine mw_le (n' := 43) (k' := 655) (Nat.le_of_ble_eq_true rfl) (Nat.le_of_ble_eq_true rfl) ?_
  refine mw_top (x := (nI 0)) (by decide +kernel) ?_
  refine mw_if_ne hX (tgt := 203) dL_cuts_16 (by decide) (fun h => absurd h (by decide)) (fun _ => ?_)
  refine mw_aload_n hX dL_cuts_19 rfl rfl ?_
  refine mw_ic hX (nI 2) dL_cuts_20 rfl ?_
  refine mw_ic hX (nI 0) dL_cuts_21 rfl ?_
  refine mw_ic hX (nI 3) dL_cuts_22 rfl ?_
  refine mw_cV hX [_, _, _] ws_L_23 dL_cuts_23 (c_order (mw_l X) 2 (by decide) 0 (by decide) (nI 3) (by unfold okR; decide) cu1 mw_L0) (mw_Yl (by decide)) mw_YW (by decide) rfl (by decide) (Nat.le_of_ble_eq_true rfl) (Nat.le_of_ble_eq_true rfl) (Nat.le_of_ble_eq_true rfl) ?_
  refine mw_mem cu2_s ?_
  refine mw_le (n' := 46) (k' := 673) (Nat.le_of_ble_eq_true rfl) (Nat.le_of_ble_eq_true rfl) ?_
  refine mw_top (x := (nI 0)) (by decide +kernel) ?_
  refine mw_if_ne hX (tgt := 203) dL_cuts_26 (by decide) (fun h => absurd h (by decide)) (fun _ => ?_)
  refine mw_aload_n hX dL_cuts_29 rfl rfl ?_
  refine mw_ic hX (nI 2) dL_cuts_30 rfl ?_
  refine mw_ic hX (nI 1) dL_cuts_31 rfl ?_
  refine mw_bp hX (nI 10) dL_cuts_32 rfl ?_
  refine mw_cV hX [_, _, _] ws_L_23 dL_cuts_34 (c_order (mw_l X) 2 (by decide) 1 (by decide) (nI 10) (by unfold okR; decide) cu2 mw_L0) (mw_Yl (by decide)) mw_YW (by decide) rfl (by decide) (Nat.le_of_ble_eq_true rfl) (Nat.le_of_ble_eq_true rfl) (Nat.le_of_ble_eq_true rfl) ?_
  refine mw_mem cu3_s ?_
  refine mw_le (n' := 49) (k' := 691) (Nat.le_of_ble_eq_true rfl) (Nat.le_of_ble_eq_true rfl) ?_
  refine mw_top (x := (nI 0)) (by decide +kernel) ?_
  refine mw_if_ne hX (tgt := 203) dL_cuts_37 (by decide) (fun h => absurd h (by decide)) (fun _ => ?_)
  refine mw_aload_n hX dL_cuts_40 rfl rfl ?_
  refine mw_ic hX (nI 2) dL_cuts_41 rfl ?_
  refine mw_bp hX (nI 6) dL_cuts_42 rfl ?_
  refine mw_cV hX [_, _] ws_L_19 dL_cuts_44 (c_setMinimum (mw_l X) 2 (by decide) (nI 6) (by unfold okR; decide) cu3 mw_L0) (mw_Yl (by decide)) mw_YW (by decide) rfl (by decide) (Nat.le_of_ble_eq_true rfl) (Nat.le_of_ble_eq_true rfl) (Nat.le_of_ble_eq_true rfl) ?_
  refine mw_mem cu4_s ?_
  refine mw_le (n' := 51) (k' := 703) (Nat.le_of_ble_eq_true rfl) (Nat.le_of_ble_eq_true rfl) ?_
  refine mw_top (x := (nI 0)) (by decide +kernel) ?_
  refine mw_if_ne hX (tgt := 203) dL_cuts_47 (by decide) (fun h => absurd h (by decide)) (fun _ => ?_)
  refine mw_aload_n hX dL_cuts_50 rfl rfl ?_
  refine mw_ic hX (nI 1) dL_cuts_51 rfl ?_
  refine mw_cV hX [_] ws_L_30 dL_cuts_52 (c_run (mw_l X) 1 (by decide) (by decide) 0 (by decide) (fun i => if i = 0 then 1 else if i = 1 then 1 else 1) cu4 (by decide +kernel) (by decide +kernel) mw_L0) (mw_Yl (by decide)) mw_YW (by decide) rfl (by decide) (Nat.le_of_ble_eq_true rfl) (Nat.le_of_ble_eq_true rfl) (Nat.le_of_ble_eq_true rfl) ?_
  refine mw_mem cu5_s ?_
  refine mw_le (n' := 52) (k' := 709) (Nat.le_of_ble_eq_true rfl) (Nat.le_of_ble_eq_true rfl) ?_
  refine mw_top (x := (nI 1)) (hours_h (by decide +kernel) 1) ?_
  refine mw_ic hX (nI 1) dL_cuts_55 rfl ?_
  refine mw_icmp_ne hX (tgt := 203) dL_cuts_56 (by decide) (fun h => absurd h (by decide)) (fun _ => ?_)
  refine mw_aload_n hX dL_cuts_59 rfl rfl ?_
  refine mw_ic hX (nI 2) dL_cuts_60 rfl ?_
  refine mw_ic hX (nI 2) dL_cuts_61 rfl ?_
  refine mw_bp hX (-2) dL_cuts_62 rfl ?_
  refine mw_ic hX (nI 5) dL_cuts_64 rfl ?_
  refine mw_bp hX (nI 55) dL_cuts_65 rfl ?_
  refine mw_cS hX [_, _, _, _, _, _] ws_L_100 dL_cuts_67 (l_pool (mw_l X) 2 (by decide) (nI 2) (-2) (nI 5) (nI 55) cu5 mw_L0 (by decide +kernel)) rfl (by decide) (Nat.le_of_ble_eq_true rfl) (Nat.le_of_ble_eq_true rfl) (Nat.le_of_ble_eq_true rfl) ?_
  refine mw_le (n' := 59) (k' := 751) (Nat.le_of_ble_eq_true rfl) (Nat.le_of_ble_eq_true rfl) ?_
  refine mw_if_eq hX (tgt := 203) dL_cuts_70 (by decide) (fun h => absurd h (by decide)) (fun _ => ?_)
  refine mw_aload_n hX dL_cuts_73 rfl rfl ?_
  refine mw_ic hX (nI 0) dL_cuts_74 rfl ?_
  refine mw_cV hX [_] ws_L_52 dL_cuts_75 (c_gone (mw_l X) 0 (by decide) cu5 mw_L0) (mw_Yl (by decide)) mw_YW (by decide) rfl (by decide) (Nat.le_of_ble_eq_true rfl) (Nat.le_of_ble_eq_true rfl) (Nat.le_of_ble_eq_true rfl) ?_
  refine mw_le (n' := 60) (k' := 757) (Nat.le_of_ble_eq_true rfl) (Nat.le_of_ble_eq_true rfl) ?_
  refine mw_top (x := (nI 3)) (by decide +kernel) ?_
  refine mw_ic hX (nI 3) dL_cuts_78 rfl ?_
  refine mw_icmp_ne hX (tgt := 203) dL_cuts_79 (by decide) (fun h => absurd h (by decide)) (fun _ => ?_)
  refine mw_aload_n hX dL_cuts_82 rfl rfl ?_
  refine mw_ic hX (nI 1) dL_cuts_83 rfl ?_
  refine mw_cV hX [_] ws_L_52 dL_cuts_84 (c_gone (mw_l X) 1 (by decide) cu5 mw_L0) (mw_Yl (by decide)) mw_YW (by decide) rfl (by decide) (Nat.le_of_ble_eq_true rfl) (Nat.le_of_ble_eq_true rfl) (Nat.le_of_ble_eq_true rfl) ?_
  refine mw_le (n' := 61) (k' := 763) (Nat.le_of_ble_eq_true rfl) (Nat.le_of_ble_eq_true rfl) ?_
  refine mw_top (x := (nI 2)) (by decide +kernel) ?_
  refine mw_ic hX (nI 2) dL_cuts_87 rfl ?_
  refine mw_icmp_ne hX (tgt := 203) dL_cuts_88 (by decide) (fun h => absurd h (by decide)) (fun _ => ?_)
  refine mw_aload_n hX dL_cuts_91 rfl rfl ?_
  refine mw_ic hX (nI 2) dL_cuts_92 rfl ?_
  refine mw_cV hX [_] ws_L_61 dL_cuts_93 (c_missed (mw_l X) 2 (by decide) cu5 mw_L0) (mw_Yl (by decide)) mw_YW (by decide) rfl (by decide) (Nat.le_of_ble_eq_true rfl) (Nat.le_of_ble_eq_true rfl) (Nat.le_of_ble_eq_true rfl) ?_
  refine mw_le (n' := 62) (k' := 769) (Nat.le_of_ble_eq_true rfl) (Nat.le_of_ble_eq_true rfl) ?_
  refine mw_top (x := (nI 1)) (by decide +kernel) ?_
  refine mw_ic hX (nI 1) dL_cuts_96 rfl ?_
  refine mw_icmp_ne hX (tgt := 203) dL_cuts_97 (by decide) (fun h => absurd h (by decide)) (fun _ => ?_)
  refine mw_aload_n hX dL_cuts_100 rfl rfl ?_
  refine mw_ic hX (nI 1) dL_cuts_101 rfl ?_
  refine mw_cV hX [_] ws_L_55 dL_cuts_102 (c_balance (mw_l X) 1 (by decide) cu5 mw_L0) (mw_Yl (by decide)) mw_YW (by decide) rfl (by decide) (Nat.le_of_ble_eq_true rfl) (Nat.le_of_ble_eq_true rfl) (Nat.le_of_ble_eq_true rfl) ?_
  refine mw_le (n' := 63) (k' := 775) (Nat.le_of_ble_eq_true rfl) (Nat.le_of_ble_eq_true rfl) ?_
  refine mw_top (x := (-2)) (by decide +kernel) ?_
  refine mw_bp hX (-2) dL_cuts_105 rfl ?_
  refine mw_icmp_ne hX (tgt := 203) dL_cuts_107 (by decide) (fun h => absurd h (by decide)) (fun _ => ?_)
  refine mw_aload_n hX dL_cuts_110 rfl rfl ?_
  refine mw_ic hX (nI 5) dL_cuts_111 rfl ?_
  refine mw_ic hX (nI 2) dL_cuts_112 rfl ?_
  refine mw_ic hX (nI 1) dL_cuts_113 rfl ?_
  refine mw_ic hX (nI 1) dL_cuts_114 rfl ?_
  refine mw_ic hX (nI 0) dL_cuts_115 rfl ?_
  refine mw_cSH hX [_, _, _, _, _, _] ws_L_95 dL_cuts_116 (w_lendS (mw_l X) (nI 2) (nI 1) (nI 1) (nI 0) _ _ _ (by decide) (by decide) (by decide) (c_lendS (mw_l X) cu5 2 (by decide) 1 (by decide) (nI 1) (by unfold okR; decide) (by decide +kernel) mw_L0)) rfl (by decide) (Nat.le_of_ble_eq_true rfl) (Nat.le_of_ble_eq_true rfl) (Nat.le_of_ble_eq_true rfl) ?_
  refine mw_le (n' := 67) (k' := 799) (Nat.le_of_ble_eq_true rfl) (Nat.le_of_ble_eq_true rfl) ?_
  refine mw_sp hX (-8003) dL_cuts_119 rfl ?_
  refine mw_icmp_ne hX (tgt := 203) dL_cuts_122 (by decide) (fun h => absurd h (by decide)) (fun _ => ?_)
  refine mw_aload_n hX dL_cuts_125 rfl rfl ?_
  refine mw_ic hX (nI 1) dL_cuts_126 rfl ?_
  refine mw_cV hX [_] ws_L_30 dL_cuts_127 (c_run (mw_l X) 1 (by decide) (by decide) 1 (by decide) (fun i => if i = 0 then 1 else if i = 1 then 1 else 1) cu5 (by decide +kernel) (by decide +kernel) mw_L0) (mw_Yl (by decide)) mw_YW (by decide) rfl (by decide) (Nat.le_of_ble_eq_true rfl) (Nat.le_of_ble_eq_true rfl) (Nat.le_of_ble_eq_true rfl) ?_
  refine mw_mem cu6_s ?_
  refine mw_le (n' := 68) (k' := 805) (Nat.le_of_ble_eq_true rfl) (Nat.le_of_ble_eq_true rfl) ?_
  refine mw_top (x := (nI 2)) (hours_h (by decide +kernel) 1) ?_
  refine mw_ic hX (nI 2) dL_cuts_130 rfl ?_
  refine mw_icmp_ne hX (tgt := 203) dL_cuts_131 (by decide) (fun h => absurd h (by decide)) (fun _ => ?_)
  refine mw_aload_n hX dL_cuts_134 rfl rfl ?_
  refine mw_ic hX (nI 2) dL_cuts_135 rfl ?_
  refine mw_ic hX (nI 4) dL_cuts_136 rfl ?_
  refine mw_bp hX (-4) dL_cuts_137 rfl ?_
  refine mw_ic hX (nI 5) dL_cuts_139 rfl ?_
  refine mw_bp hX (nI 110) dL_cuts_140 rfl ?_
  refine mw_cS hX [_, _, _, _, _, _] ws_L_100 dL_cuts_142 (l_pool (mw_l X) 2 (by decide) (nI 4) (-4) (nI 5) (nI 110) cu6 mw_L0 (by decide +kernel)) rfl (by decide) (Nat.le_of_ble_eq_true rfl) (Nat.le_of_ble_eq_true rfl) (Nat.le_of_ble_eq_true rfl) ?_
  refine mw_le (n' := 75) (k' := 847) (Nat.le_of_ble_eq_true rfl) (Nat.le_of_ble_eq_true rfl) ?_
  refine mw_if_eq hX (tgt := 203) dL_cuts_145 (by decide) (fun h => absurd h (by decide)) (fun _ => ?_)
  refine mw_aload_n hX dL_cuts_148 rfl rfl ?_
  refine mw_ic hX (nI 2) dL_cuts_149 rfl ?_
  refine mw_cV hX [_] ws_L_61 dL_cuts_150 (c_missed (mw_l X) 2 (by decide) cu6 mw_L0) (mw_Yl (by decide)) mw_YW (by decide) rfl (by decide) (Nat.le_of_ble_eq_true rfl) (Nat.le_of_ble_eq_true rfl) (Nat.le_of_ble_eq_true rfl) ?_
  refine mw_le (n' := 76) (k' := 853) (Nat.le_of_ble_eq_true rfl) (Nat.le_of_ble_eq_true rfl) ?_
  refine mw_top (x := (nI 2)) (by decide +kernel) ?_
  refine mw_ic hX (nI 2) dL_cuts_153 rfl ?_
  refine mw_icmp_ne hX (tgt := 203) dL_cuts_154 (by decide) (fun h => absurd h (by decide)) (fun _ => ?_)
  refine mw_aload_n hX dL_cuts_157 rfl rfl ?_
  refine mw_ic hX (nI 2) dL_cuts_158 rfl ?_
  refine mw_ic hX (nI 0) dL_cuts_159 rfl ?_
  refine mw_ic hX (nI 4) dL_cuts_160 rfl ?_
  refine mw_cV hX [_, _, _] ws_L_34 dL_cuts_161 (c_lend (mw_l X) cu6 2 (by decide) 0 (by decide) (nI 4) (by unfold okR; decide) (by decide +kernel) mw_L0) (mw_Yl (by decide)) mw_YW (by decide) rfl (by decide) (Nat.le_of_ble_eq_true rfl) (Nat.le_of_ble_eq_true rfl) (Nat.le_of_ble_eq_true rfl) ?_
  refine mw_mem cu7_s ?_
  refine mw_le (n' := 79) (k' := 871) (Nat.le_of_ble_eq_true rfl) (Nat.le_of_ble_eq_true rfl) ?_
  refine mw_top (x := (nI 0)) (by decide +kernel) ?_
  refine mw_if_ne hX (tgt := 203) dL_cuts_164 (by decide) (fun h => absurd h (by decide)) (fun _ => ?_)
  refine mw_aload_n hX dL_cuts_167 rfl rfl ?_
  refine mw_ic hX (nI 2) dL_cuts_168 rfl ?_
  refine mw_ic hX (nI 0) dL_cuts_169 rfl ?_
  refine mw_ic hX (nI 0) dL_cuts_170 rfl ?_
  refine mw_ic hX (nI 5) dL_cuts_171 rfl ?_
  refine mw_bp hX (nI 110) dL_cuts_172 rfl ?_
  refine mw_cS hX [_, _, _, _, _, _] ws_L_100 dL_cuts_174 (l_pool (mw_l X) 2 (by decide) (nI 0) (nI 0) (nI 5) (nI 110) cu7 mw_L0 (by decide +kernel)) rfl (by decide) (Nat.le_of_ble_eq_true rfl) (Nat.le_of_ble_eq_true rfl) (Nat.le_of_ble_eq_true rfl) ?_
  refine mw_le (n' := 86) (k' := 913) (Nat.le_of_ble_eq_true rfl) (Nat.le_of_ble_eq_true rfl) ?_
  refine mw_if_eq hX (tgt := 203) dL_cuts_177 (by decide) (fun h => absurd h (by decide)) (fun _ => ?_)
  refine mw_aload_n hX dL_cuts_180 rfl rfl ?_
  refine mw_ic hX (nI 0) dL_cuts_181 rfl ?_
  refine mw_cV hX [_] ws_L_55 dL_cuts_182 (c_balance (mw_l X) 0 (by decide) cu7 mw_L0) (mw_Yl (by decide)) mw_YW (by decide) rfl (by decide) (Nat.le_of_ble_eq_true rfl) (Nat.le_of_ble_eq_true rfl) (Nat.le_of_ble_eq_true rfl) ?_
  refine mw_le (n' := 87) (k' := 919) (Nat.le_of_ble_eq_true rfl) (Nat.le_of_ble_eq_true rfl) ?_
  refine mw_top (x := (nI 0)) (by decide +kernel) ?_
  refine mw_if_ne hX (tgt := 203) dL_cuts_185 (by decide) (fun h => absurd h (by decide)) (fun _ => ?_)
  refine mw_aload_n hX dL_cuts_188 rfl rfl ?_
  refine mw_ic hX (nI 1) dL_cuts_189 rfl ?_
  refine mw_cV hX [_] ws_L_55 dL_cuts_190 (c_balance (mw_l X) 1 (by decide) cu7 mw_L0) (mw_Yl (by decide)) mw_YW (by decide) rfl (by decide) (Nat.le_of_ble_eq_true rfl) (Nat.le_of_ble_eq_true rfl) (Nat.le_of_ble_eq_true rfl) ?_
  refine mw_le (n' := 88) (k' := 925) (Nat.le_of_ble_eq_true rfl) (Nat.le_of_ble_eq_true rfl) ?_
  refine mw_top (x := (nI 0)) (by decide +kernel) ?_
  refine mw_if_ne hX (tgt := 203) dL_cuts_193 (by decide) (fun h => absurd h (by decide)) (fun _ => ?_)
  refine mw_aload_n hX dL_cuts_196 rfl rfl ?_
  refine mw_cS hX [_] ws_L_104 dL_cuts_197 (l_refuses (mw_l X) cu7 mw_L0) rfl (by decide) (Nat.le_of_ble_eq_true rfl) (Nat.le_of_ble_eq_true rfl) (Nat.le_of_ble_eq_true rfl) ?_
  refine mw_le (n' := 788) (k' := 5225) (Nat.le_of_ble_eq_true rfl) (Nat.le_of_ble_eq_true rfl) ?_
  refine mw_if_ne hX (tgt := 205) dL_cuts_200 (by decide) (fun _ => ?_) (fun h => absurd h (by decide))
  refine mw_aload_n hX dL_cuts_205 rfl rfl ?_
  refine mw_ic hX (nI 1) dL_cuts_206 rfl ?_
  refine mw_ic hX (nI 4) dL_cuts_207 rfl ?_
  refine mw_ic hX (nI 0) dL_cuts_208 rfl ?_
  refine mw_ic hX (nI 0) dL_cuts_209 rfl ?_
  refine mw_cSH hX [_, _, _, _, _] ws_L_89 dL_cuts_210 (w_pond (mw_l X) (nI 1) (nI 4) (nI 0) (nI 0) _ _ _ (by decide) (by decide) (by decide) (c_setPond (mw_l X) 1 (by decide) (nI 4) (nI 0) (nI 0) (by unfold okR; decide) (by unfold okR; decide) (by unfold okR; decide) cu7 mw_L0)) rfl (by decide) (Nat.le_of_ble_eq_true rfl) (Nat.le_of_ble_eq_true rfl) (Nat.le_of_ble_eq_true rfl) ?_
  refine mw_mem cu8_s ?_
  refine mw_le (n' := 792) (k' := 5249) (Nat.le_of_ble_eq_true rfl) (Nat.le_of_ble_eq_true rfl) ?_
  refine mw_if_ne hX (tgt := 435) dL_cuts_213 (by decide) (fun h => absurd h (by decide)) (fun _ => ?_)
  refine mw_aload_n hX dL_cuts_216 rfl rfl ?_
  refine mw_ic hX (nI 1) dL_cuts_217 rfl ?_
  refine mw_bp hX (nI 20) dL_cuts_218 rfl ?_
  refine mw_bp hX (nI 25) dL_cuts_220 rfl ?_
  refine mw_cV hX [_, _, _] ws_L_15 dL_cuts_222 (c_setInflow (mw_l X) 1 (by decide) (nI 20) (nI 25) (by unfold okR; decide) (by unfold okR; decide) cu8 mw_L0) (mw_Yl (by decide)) mw_YW (by decide) rfl (by decide) (Nat.le_of_ble_eq_true rfl) (Nat.le_of_ble_eq_true rfl) (Nat.le_of_ble_eq_true rfl) ?_
  refine mw_mem cu9_s ?_
  refine mw_le (n' := 795) (k' := 5267) (Nat.le_of_ble_eq_true rfl) (Nat.le_of_ble_eq_true rfl) ?_
  refine mw_top (x := (nI 0)) (by decide +kernel) ?_
  refine mw_if_ne hX (tgt := 435) dL_cuts_225 (by decide) (fun h => absurd h (by decide)) (fun _ => ?_)
  refine mw_aload_n hX dL_cuts_228 rfl rfl ?_
  refine mw_ic hX (nI 2) dL_cuts_229 rfl ?_
  refine mw_ic hX (nI 0) dL_cuts_230 rfl ?_
  refine mw_ic hX (nI 0) dL_cuts_231 rfl ?_
  refine mw_cV hX [_, _, _] ws_L_15 dL_cuts_232 (c_setInflow (mw_l X) 2 (by decide) (nI 0) (nI 0) (by unfold okR; decide) (by unfold okR; decide) cu9 mw_L0) (mw_Yl (by decide)) mw_YW (by decide) rfl (by decide) (Nat.le_of_ble_eq_true rfl) (Nat.le_of_ble_eq_true rfl) (Nat.le_of_ble_eq_true rfl) ?_
  refine mw_mem cu10_s ?_
  refine mw_le (n' := 798) (k' := 5285) (Nat.le_of_ble_eq_true rfl) (Nat.le_of_ble_eq_true rfl) ?_
  refine mw_top (x := (nI 5)) (by decide +kernel) ?_
  refine mw_ic hX (nI 5) dL_cuts_235 rfl ?_
  refine mw_icmp_ne hX (tgt := 435) dL_cuts_236 (by decide) (fun h => absurd h (by decide)) (fun _ => ?_)
  refine mw_aload_n hX dL_cuts_239 rfl rfl ?_
  refine mw_ic hX (nI 2) dL_cuts_240 rfl ?_
  refine mw_ic hX (nI 0) dL_cuts_241 rfl ?_
  refine mw_ic hX (nI 0) dL_cuts_242 rfl ?_
  refine mw_cV hX [_, _, _] ws_L_23 dL_cuts_243 (c_order (mw_l X) 2 (by decide) 0 (by decide) (nI 0) (by unfold okR; decide) cu10 mw_L0) (mw_Yl (by decide)) mw_YW (by decide) rfl (by decide) (Nat.le_of_ble_eq_true rfl) (Nat.le_of_ble_eq_true rfl) (Nat.le_of_ble_eq_true rfl) ?_
  refine mw_mem cu11_s ?_
  refine mw_le (n' := 801) (k' := 5303) (Nat.le_of_ble_eq_true rfl) (Nat.le_of_ble_eq_true rfl) ?_
  refine mw_top (x := (nI 3)) (by decide +kernel) ?_
  refine mw_ic hX (nI 3) dL_cuts_246 rfl ?_
  refine mw_icmp_ne hX (tgt := 435) dL_cuts_247 (by decide) (fun h => absurd h (by decide)) (fun _ => ?_)
  refine mw_aload_n hX dL_cuts_250 rfl rfl ?_
  refine mw_ic hX (nI 2) dL_cuts_251 rfl ?_
  refine mw_ic hX (nI 1) dL_cuts_252 rfl ?_
  refine mw_ic hX (nI 0) dL_cuts_253 rfl ?_
  refine mw_cV hX [_, _, _] ws_L_23 dL_cuts_254 (c_order (mw_l X) 2 (by decide) 1 (by decide) (nI 0) (by unfold okR; decide) cu11 mw_L0) (mw_Yl (by decide)) mw_YW (by decide) rfl (by decide) (Nat.le_of_ble_eq_true rfl) (Nat.le_of_ble_eq_true rfl) (Nat.le_of_ble_eq_true rfl) ?_
  refine mw_mem cu12_s ?_
  refine mw_le (n' := 804) (k' := 5321) (Nat.le_of_ble_eq_true rfl) (Nat.le_of_ble_eq_true rfl) ?_
  refine mw_top (x := (nI 10)) (by decide +kernel) ?_
  refine mw_bp hX (nI 10) dL_cuts_257 rfl ?_
  refine mw_icmp_ne hX (tgt := 435) dL_cuts_259 (by decide) (fun h => absurd h (by decide)) (fun _ => ?_)
  refine mw_aload_n hX dL_cuts_262 rfl rfl ?_
  refine mw_ic hX (nI 2) dL_cuts_263 rfl ?_
  refine mw_ic hX (nI 0) dL_cuts_264 rfl ?_
  refine mw_cV hX [_, _] ws_L_19 dL_cuts_265 (c_setMinimum (mw_l X) 2 (by decide) (nI 0) (by unfold okR; decide) cu12 mw_L0) (mw_Yl (by decide)) mw_YW (by decide) rfl (by decide) (Nat.le_of_ble_eq_true rfl) (Nat.le_of_ble_eq_true rfl) (Nat.le_of_ble_eq_true rfl) ?_
  refine mw_mem cu13_s ?_
  refine mw_le (n' := 806) (k' := 5333) (Nat.le_of_ble_eq_true rfl) (Nat.le_of_ble_eq_true rfl) ?_
  refine mw_top (x := (nI 6)) (by decide +kernel) ?_
  refine mw_bp hX (nI 6) dL_cuts_268 rfl ?_
  refine mw_icmp_ne hX (tgt := 435) dL_cuts_270 (by decide) (fun h => absurd h (by decide)) (fun _ => ?_)
  refine mw_aload_n hX dL_cuts_273 rfl rfl ?_
  refine mw_ic hX (nI 1) dL_cuts_274 rfl ?_
  refine mw_cV hX [_] ws_L_30 dL_cuts_275 (c_run (mw_l X) 1 (by decide) (by decide) 2 (by decide) (fun i => if i = 0 then 1 else if i = 1 then 0 else 1) cu13 (by decide +kernel) (by decide +kernel) mw_L0) (mw_Yl (by decide)) mw_YW (by decide) rfl (by decide) (Nat.le_of_ble_eq_true rfl) (Nat.le_of_ble_eq_true rfl) (Nat.le_of_ble_eq_true rfl) ?_
  refine mw_mem cu14_s ?_
  refine mw_le (n' := 807) (k' := 5339) (Nat.le_of_ble_eq_true rfl) (Nat.le_of_ble_eq_true rfl) ?_
  refine mw_top (x := (nI 3)) (hours_h (by decide +kernel) 1) ?_
  refine mw_ic hX (nI 3) dL_cuts_278 rfl ?_
  refine mw_icmp_ne hX (tgt := 435) dL_cuts_279 (by decide) (fun h => absurd h (by decide)) (fun _ => ?_)
  refine mw_aload_n hX dL_cuts_282 rfl rfl ?_
  refine mw_ic hX (nI 1) dL_cuts_283 rfl ?_
  refine mw_ic hX (nI 5) dL_cuts_284 rfl ?_
  refine mw_ic hX (-1) dL_cuts_285 rfl ?_
  refine mw_ic hX (nI 0) dL_cuts_286 rfl ?_
  refine mw_ic hX (nI 0) dL_cuts_287 rfl ?_
  refine mw_cS hX [_, _, _, _, _, _] ws_L_100 dL_cuts_288 (l_pool (mw_l X) 1 (by decide) (nI 5) (-1) (nI 0) (nI 0) cu14 mw_L0 (by decide +kernel)) rfl (by decide) (Nat.le_of_ble_eq_true rfl) (Nat.le_of_ble_eq_true rfl) (Nat.le_of_ble_eq_true rfl) ?_
  refine mw_le (n' := 814) (k' := 5381) (Nat.le_of_ble_eq_true rfl) (Nat.le_of_ble_eq_true rfl) ?_
  refine mw_if_eq hX (tgt := 435) dL_cuts_291 (by decide) (fun h => absurd h (by decide)) (fun _ => ?_)
  refine mw_aload_n hX dL_cuts_294 rfl rfl ?_
  refine mw_ic hX (nI 1) dL_cuts_295 rfl ?_
  refine mw_cV hX [_] ws_L_58 dL_cuts_296 (c_spilled (mw_l X) 1 (by decide) cu14 mw_L0) (mw_Yl (by decide)) mw_YW (by decide) rfl (by decide) (Nat.le_of_ble_eq_true rfl) (Nat.le_of_ble_eq_true rfl) (Nat.le_of_ble_eq_true rfl) ?_
  refine mw_le (n' := 815) (k' := 5387) (Nat.le_of_ble_eq_true rfl) (Nat.le_of_ble_eq_true rfl) ?_
  refine mw_top (x := (nI 16)) (by decide +kernel) ?_
  refine mw_bp hX (nI 16) dL_cuts_299 rfl ?_
  refine mw_icmp_ne hX (tgt := 435) dL_cuts_301 (by decide) (fun h => absurd h (by decide)) (fun _ => ?_)
  refine mw_aload_n hX dL_cuts_304 rfl rfl ?_
  refine mw_ic hX (nI 2) dL_cuts_305 rfl ?_
  refine mw_ic hX (nI 0) dL_cuts_306 rfl ?_
  refine mw_bp hX (nI 16) dL_cuts_307 rfl ?_
  refine mw_ic hX (nI 0) dL_cuts_309 rfl ?_
  refine mw_bp hX (nI 110) dL_cuts_310 rfl ?_
  refine mw_cS hX [_, _, _, _, _, _] ws_L_100 dL_cuts_312 (l_pool (mw_l X) 2 (by decide) (nI 0) (nI 16) (nI 0) (nI 110) cu14 mw_L0 (by decide +kernel)) rfl (by decide) (Nat.le_of_ble_eq_true rfl) (Nat.le_of_ble_eq_true rfl) (Nat.le_of_ble_eq_true rfl) ?_
  refine mw_le (n' := 822) (k' := 5429) (Nat.le_of_ble_eq_true rfl) (Nat.le_of_ble_eq_true rfl) ?_
  refine mw_if_eq hX (tgt := 435) dL_cuts_315 (by decide) (fun h => absurd h (by decide)) (fun _ => ?_)
  refine mw_aload_n hX dL_cuts_318 rfl rfl ?_
  refine mw_ic hX (nI 2) dL_cuts_319 rfl ?_
  refine mw_ic hX (nI 1) dL_cuts_320 rfl ?_
  refine mw_cV hX [_, _] ws_L_43 dL_cuts_321 (c_travelling (mw_l X) 2 (by decide) (by decide) 1 (by decide) cu14 mw_L0) (mw_Yl (by decide)) mw_YW (by decide) rfl (by decide) (Nat.le_of_ble_eq_true rfl) (Nat.le_of_ble_eq_true rfl) (Nat.le_of_ble_eq_true rfl) ?_
  refine mw_le (n' := 824) (k' := 5441) (Nat.le_of_ble_eq_true rfl) (Nat.le_of_ble_eq_true rfl) ?_
  refine mw_top (x := (nI 0)) (by decide +kernel) ?_
  refine mw_if_ne hX (tgt := 435) dL_cuts_324 (by decide) (fun h => absurd h (by decide)) (fun _ => ?_)
  refine mw_aload_n hX dL_cuts_327 rfl rfl ?_
  refine mw_ic hX (nI 1) dL_cuts_328 rfl ?_
  refine mw_cV hX [_] ws_L_30 dL_cuts_329 (c_run (mw_l X) 1 (by decide) (by decide) 3 (by decide) (fun i => if i = 0 then 1 else if i = 1 then 0 else 1) cu14 (by decide +kernel) (by decide +kernel) mw_L0) (mw_Yl (by decide)) mw_YW (by decide) rfl (by decide) (Nat.le_of_ble_eq_true rfl) (Nat.le_of_ble_eq_true rfl) (Nat.le_of_ble_eq_true rfl) ?_
  refine mw_mem cu15_s ?_
  refine mw_le (n' := 825) (k' := 5447) (Nat.le_of_ble_eq_true rfl) (Nat.le_of_ble_eq_true rfl) ?_
  refine mw_top (x := (nI 4)) (hours_h (by decide +kernel) 1) ?_
  refine mw_ic hX (nI 4) dL_cuts_332 rfl ?_
  refine mw_icmp_ne hX (tgt := 435) dL_cuts_333 (by decide) (fun h => absurd h (by decide)) (fun _ => ?_)
  refine mw_aload_n hX dL_cuts_336 rfl rfl ?_
  refine mw_ic hX (nI 1) dL_cuts_337 rfl ?_
  refine mw_bp hX (nI 10) dL_cuts_338 rfl ?_
  refine mw_bp hX (-6) dL_cuts_340 rfl ?_
  refine mw_ic hX (nI 0) dL_cuts_342 rfl ?_
  refine mw_ic hX (nI 0) dL_cuts_343 rfl ?_
  refine mw_cS hX [_, _, _, _, _, _] ws_L_100 dL_cuts_344 (l_pool (mw_l X) 1 (by decide) (nI 10) (-6) (nI 0) (nI 0) cu15 mw_L0 (by decide +kernel)) rfl (by decide) (Nat.le_of_ble_eq_true rfl) (Nat.le_of_ble_eq_true rfl) (Nat.le_of_ble_eq_true rfl) ?_
  refine mw_le (n' := 832) (k' := 5489) (Nat.le_of_ble_eq_true rfl) (Nat.le_of_ble_eq_true rfl) ?_
  refine mw_if_eq hX (tgt := 435) dL_cuts_347 (by decide) (fun h => absurd h (by decide)) (fun _ => ?_)
  refine mw_aload_n hX dL_cuts_350 rfl rfl ?_
  refine mw_ic hX (nI 1) dL_cuts_351 rfl ?_
  refine mw_cV hX [_] ws_L_58 dL_cuts_352 (c_spilled (mw_l X) 1 (by decide) cu15 mw_L0) (mw_Yl (by decide)) mw_YW (by decide) rfl (by decide) (Nat.le_of_ble_eq_true rfl) (Nat.le_of_ble_eq_true rfl) (Nat.le_of_ble_eq_true rfl) ?_
  refine mw_le (n' := 833) (k' := 5495) (Nat.le_of_ble_eq_true rfl) (Nat.le_of_ble_eq_true rfl) ?_
  refine mw_top (x := (nI 36)) (by decide +kernel) ?_
  refine mw_bp hX (nI 36) dL_cuts_355 rfl ?_
  refine mw_icmp_ne hX (tgt := 435) dL_cuts_357 (by decide) (fun h => absurd h (by decide)) (fun _ => ?_)
  refine mw_aload_n hX dL_cuts_360 rfl rfl ?_
  refine mw_ic hX (nI 2) dL_cuts_361 rfl ?_
  refine mw_ic hX (nI 1) dL_cuts_362 rfl ?_
  refine mw_cV hX [_, _] ws_L_37 dL_cuts_363 (c_account (mw_l X) 2 (by decide) 1 (by decide) cu15 mw_L0) (mw_Yl (by decide)) mw_YW (by decide) rfl (by decide) (Nat.le_of_ble_eq_true rfl) (Nat.le_of_ble_eq_true rfl) (Nat.le_of_ble_eq_true rfl) ?_
  refine mw_le (n' := 835) (k' := 5507) (Nat.le_of_ble_eq_true rfl) (Nat.le_of_ble_eq_true rfl) ?_
  refine mw_top (x := (nI 36)) (by decide +kernel) ?_
  refine mw_bp hX (nI 36) dL_cuts_366 rfl ?_
  refine mw_icmp_ne hX (tgt := 435) dL_cuts_368 (by decide) (fun h => absurd h (by decide)) (fun _ => ?_)
  refine mw_aload_n hX dL_cuts_371 rfl rfl ?_
  refine mw_ic hX (nI 1) dL_cuts_372 rfl ?_
  refine mw_ic hX (nI 0) dL_cuts_373 rfl ?_
  refine mw_ic hX (nI 0) dL_cuts_374 rfl ?_
  refine mw_cV hX [_, _, _] ws_L_15 dL_cuts_375 (c_setInflow (mw_l X) 1 (by decide) (nI 0) (nI 0) (by unfold okR; decide) (by unfold okR; decide) cu15 mw_L0) (mw_Yl (by decide)) mw_YW (by decide) rfl (by decide) (Nat.le_of_ble_eq_true rfl) (Nat.le_of_ble_eq_true rfl) (Nat.le_of_ble_eq_true rfl) ?_
  refine mw_mem cu16_s ?_
  refine mw_le (n' := 838) (k' := 5525) (Nat.le_of_ble_eq_true rfl) (Nat.le_of_ble_eq_true rfl) ?_
  refine mw_top (x := (nI 20)) (by decide +kernel) ?_
  refine mw_bp hX (nI 20) dL_cuts_378 rfl ?_
  refine mw_icmp_ne hX (tgt := 435) dL_cuts_380 (by decide) (fun h => absurd h (by decide)) (fun _ => ?_)
  refine mw_aload_n hX dL_cuts_383 rfl rfl ?_
  refine mw_ic hX (nI 1) dL_cuts_384 rfl ?_
  refine mw_bp hX (nI 7) dL_cuts_385 rfl ?_
  refine mw_cV hX [_, _] ws_L_19 dL_cuts_387 (c_setMinimum (mw_l X) 1 (by decide) (nI 7) (by unfold okR; decide) cu16 mw_L0) (mw_Yl (by decide)) mw_YW (by decide) rfl (by decide) (Nat.le_of_ble_eq_true rfl) (Nat.le_of_ble_eq_true rfl) (Nat.le_of_ble_eq_true rfl) ?_
  refine mw_mem cu17_s ?_
  refine mw_le (n' := 840) (k' := 5537) (Nat.le_of_ble_eq_true rfl) (Nat.le_of_ble_eq_true rfl) ?_
  refine mw_top (x := (nI 0)) (by decide +kernel) ?_
  refine mw_if_ne hX (tgt := 435) dL_cuts_390 (by decide) (fun h => absurd h (by decide)) (fun _ => ?_)
  refine mw_aload_n hX dL_cuts_393 rfl rfl ?_
  refine mw_ic hX (nI 1) dL_cuts_394 rfl ?_
  refine mw_cV hX [_] ws_L_30 dL_cuts_395 (c_run (mw_l X) 1 (by decide) (by decide) 4 (by decide) (fun i => if i = 0 then 1 else if i = 1 then 0 else 1) cu17 (by decide +kernel) (by decide +kernel) mw_L0) (mw_Yl (by decide)) mw_YW (by decide) rfl (by decide) (Nat.le_of_ble_eq_true rfl) (Nat.le_of_ble_eq_true rfl) (Nat.le_of_ble_eq_true rfl) ?_
  refine mw_mem cu18_s ?_
  refine mw_le (n' := 841) (k' := 5543) (Nat.le_of_ble_eq_true rfl) (Nat.le_of_ble_eq_true rfl) ?_
  refine mw_top (x := (nI 5)) (hours_h (by decide +kernel) 1) ?_
  refine mw_ic hX (nI 5) dL_cuts_398 rfl ?_
  refine mw_icmp_ne hX (tgt := 435) dL_cuts_399 (by decide) (fun h => absurd h (by decide)) (fun _ => ?_)
  refine mw_aload_n hX dL_cuts_402 rfl rfl ?_
  refine mw_ic hX (nI 1) dL_cuts_403 rfl ?_
  refine mw_bp hX (nI 6) dL_cuts_404 rfl ?_
  refine mw_bp hX (-6) dL_cuts_406 rfl ?_
  refine mw_ic hX (nI 4) dL_cuts_408 rfl ?_
  refine mw_ic hX (nI 0) dL_cuts_409 rfl ?_
  refine mw_cS hX [_, _, _, _, _, _] ws_L_100 dL_cuts_410 (l_pool (mw_l X) 1 (by decide) (nI 6) (-6) (nI 4) (nI 0) cu18 mw_L0 (by decide +kernel)) rfl (by decide) (Nat.le_of_ble_eq_true rfl) (Nat.le_of_ble_eq_true rfl) (Nat.le_of_ble_eq_true rfl) ?_
  refine mw_le (n' := 848) (k' := 5585) (Nat.le_of_ble_eq_true rfl) (Nat.le_of_ble_eq_true rfl) ?_
  refine mw_if_eq hX (tgt := 435) dL_cuts_413 (by decide) (fun h => absurd h (by decide)) (fun _ => ?_)
  refine mw_aload_n hX dL_cuts_416 rfl rfl ?_
  refine mw_ic hX (nI 1) dL_cuts_417 rfl ?_
  refine mw_cV hX [_] ws_L_61 dL_cuts_418 (c_missed (mw_l X) 1 (by decide) cu18 mw_L0) (mw_Yl (by decide)) mw_YW (by decide) rfl (by decide) (Nat.le_of_ble_eq_true rfl) (Nat.le_of_ble_eq_true rfl) (Nat.le_of_ble_eq_true rfl) ?_
  refine mw_le (n' := 849) (k' := 5591) (Nat.le_of_ble_eq_true rfl) (Nat.le_of_ble_eq_true rfl) ?_
  refine mw_top (x := (nI 1)) (by decide +kernel) ?_
  refine mw_ic hX (nI 1) dL_cuts_421 rfl ?_
  refine mw_icmp_ne hX (tgt := 435) dL_cuts_422 (by decide) (fun h => absurd h (by decide)) (fun _ => ?_)
  refine mw_aload_n hX dL_cuts_425 rfl rfl ?_
  refine mw_ic hX (nI 2) dL_cuts_426 rfl ?_
  refine mw_ic hX (nI 0) dL_cuts_427 rfl ?_
  refine mw_cV hX [_, _] ws_L_37 dL_cuts_428 (c_account (mw_l X) 2 (by decide) 0 (by decide) cu18 mw_L0) (mw_Yl (by decide)) mw_YW (by decide) rfl (by decide) (Nat.le_of_ble_eq_true rfl) (Nat.le_of_ble_eq_true rfl) (Nat.le_of_ble_eq_true rfl) ?_
  refine mw_le (n' := 851) (k' := 5603) (Nat.le_of_ble_eq_true rfl) (Nat.le_of_ble_eq_true rfl) ?_
  refine mw_top (x := (nI 4)) (by decide +kernel) ?_
  refine mw_ic hX (nI 4) dL_cuts_431 rfl ?_
  refine mw_icmp_eq hX (tgt := 437) dL_cuts_432 (by decide) (fun _ => ?_) (fun h => absurd h (by decide))
  refine mw_aload_n hX dL_cuts_437 rfl rfl ?_
  refine mw_ic hX (nI 2) dL_cuts_438 rfl ?_
  refine mw_ic hX (nI 0) dL_cuts_439 rfl ?_
  refine mw_bp hX (nI 30) dL_cuts_440 rfl ?_
  refine mw_cV hX [_, _, _] ws_L_23 dL_cuts_442 (c_order (mw_l X) 2 (by decide) 0 (by decide) (nI 30) (by unfold okR; decide) cu18 mw_L0) (mw_Yl (by decide)) mw_YW (by decide) rfl (by decide) (Nat.le_of_ble_eq_true rfl) (Nat.le_of_ble_eq_true rfl) (Nat.le_of_ble_eq_true rfl) ?_
  refine mw_mem cu19_s ?_
  refine mw_le (n' := 854) (k' := 5621) (Nat.le_of_ble_eq_true rfl) (Nat.le_of_ble_eq_true rfl) ?_
  refine mw_top (x := (nI 0)) (by decide +kernel) ?_
  refine mw_if_ne hX (tgt := 517) dL_cuts_445 (by decide) (fun h => absurd h (by decide)) (fun _ => ?_)
  refine mw_aload_n hX dL_cuts_448 rfl rfl ?_
  refine mw_ic hX (nI 2) dL_cuts_449 rfl ?_
  refine mw_ic hX (nI 1) dL_cuts_450 rfl ?_
  refine mw_bp hX (nI 30) dL_cuts_451 rfl ?_
  refine mw_cV hX [_, _, _] ws_L_23 dL_cuts_453 (c_order (mw_l X) 2 (by decide) 1 (by decide) (nI 30) (by unfold okR; decide) cu19 mw_L0) (mw_Yl (by decide)) mw_YW (by decide) rfl (by decide) (Nat.le_of_ble_eq_true rfl) (Nat.le_of_ble_eq_true rfl) (Nat.le_of_ble_eq_true rfl) ?_
  refine mw_mem cu20_s ?_
  refine mw_le (n' := 857) (k' := 5639) (Nat.le_of_ble_eq_true rfl) (Nat.le_of_ble_eq_true rfl) ?_
  refine mw_top (x := (nI 0)) (by decide +kernel) ?_
  refine mw_if_ne hX (tgt := 517) dL_cuts_456 (by decide) (fun h => absurd h (by decide)) (fun _ => ?_)
  refine mw_aload_n hX dL_cuts_459 rfl rfl ?_
  refine mw_ic hX (nI 1) dL_cuts_460 rfl ?_
  refine mw_cV hX [_] ws_L_30 dL_cuts_461 (c_run (mw_l X) 1 (by decide) (by decide) 5 (by decide) (fun i => if i = 0 then 1 else if i = 1 then 0 else 1) cu20 (by decide +kernel) (by decide +kernel) mw_L0) (mw_Yl (by decide)) mw_YW (by decide) rfl (by decide) (Nat.le_of_ble_eq_true rfl) (Nat.le_of_ble_eq_true rfl) (Nat.le_of_ble_eq_true rfl) ?_
  refine mw_mem cu21_s ?_
  refine mw_le (n' := 858) (k' := 5645) (Nat.le_of_ble_eq_true rfl) (Nat.le_of_ble_eq_true rfl) ?_
  refine mw_top (x := (nI 6)) (hours_h (by decide +kernel) 1) ?_
  refine mw_bp hX (nI 6) dL_cuts_464 rfl ?_
  refine mw_icmp_ne hX (tgt := 517) dL_cuts_466 (by decide) (fun h => absurd h (by decide)) (fun _ => ?_)
  refine mw_aload_n hX dL_cuts_469 rfl rfl ?_
  refine mw_ic hX (nI 2) dL_cuts_470 rfl ?_
  refine mw_bp hX (-6) dL_cuts_471 rfl ?_
  refine mw_bp hX (nI 6) dL_cuts_473 rfl ?_
  refine mw_bp hX (nI 16) dL_cuts_475 rfl ?_
  refine mw_sp hX (nI 398) dL_cuts_477 rfl ?_
  refine mw_cS hX [_, _, _, _, _, _] ws_L_100 dL_cuts_480 (l_pool (mw_l X) 2 (by decide) (-6) (nI 6) (nI 16) (nI 398) cu21 mw_L0 (by decide +kernel)) rfl (by decide) (Nat.le_of_ble_eq_true rfl) (Nat.le_of_ble_eq_true rfl) (Nat.le_of_ble_eq_true rfl) ?_
  refine mw_le (n' := 865) (k' := 5687) (Nat.le_of_ble_eq_true rfl) (Nat.le_of_ble_eq_true rfl) ?_
  refine mw_if_eq hX (tgt := 517) dL_cuts_483 (by decide) (fun h => absurd h (by decide)) (fun _ => ?_)
  refine mw_aload_n hX dL_cuts_486 rfl rfl ?_
  refine mw_ic hX (nI 0) dL_cuts_487 rfl ?_
  refine mw_cV hX [_] ws_L_52 dL_cuts_488 (c_gone (mw_l X) 0 (by decide) cu21 mw_L0) (mw_Yl (by decide)) mw_YW (by decide) rfl (by decide) (Nat.le_of_ble_eq_true rfl) (Nat.le_of_ble_eq_true rfl) (Nat.le_of_ble_eq_true rfl) ?_
  refine mw_le (n' := 866) (k' := 5693) (Nat.le_of_ble_eq_true rfl) (Nat.le_of_ble_eq_true rfl) ?_
  refine mw_top (x := (nI 16)) (by decide +kernel) ?_
  refine mw_bp hX (nI 16) dL_cuts_491 rfl ?_
  refine mw_icmp_ne hX (tgt := 517) dL_cuts_493 (by decide) (fun h => absurd h (by decide)) (fun _ => ?_)
  refine mw_aload_n hX dL_cuts_496 rfl rfl ?_
  refine mw_ic hX (nI 1) dL_cuts_497 rfl ?_
  refine mw_cV hX [_] ws_L_52 dL_cuts_498 (c_gone (mw_l X) 1 (by decide) cu21 mw_L0) (mw_Yl (by decide)) mw_YW (by decide) rfl (by decide) (Nat.le_of_ble_eq_true rfl) (Nat.le_of_ble_eq_true rfl) (Nat.le_of_ble_eq_true rfl) ?_
  refine mw_le (n' := 867) (k' := 5699) (Nat.le_of_ble_eq_true rfl) (Nat.le_of_ble_eq_true rfl) ?_
  refine mw_top (x := (nI 34)) (by decide +kernel) ?_
  refine mw_bp hX (nI 34) dL_cuts_501 rfl ?_
  refine mw_icmp_ne hX (tgt := 517) dL_cuts_503 (by decide) (fun h => absurd h (by decide)) (fun _ => ?_)
  refine mw_aload_n hX dL_cuts_506 rfl rfl ?_
  refine mw_cS hX [_] ws_L_104 dL_cuts_507 (l_refuses (mw_l X) cu21 mw_L0) rfl (by decide) (Nat.le_of_ble_eq_true rfl) (Nat.le_of_ble_eq_true rfl) (Nat.le_of_ble_eq_true rfl) ?_
  refine mw_le (n' := 1567) (k' := 9999) (Nat.le_of_ble_eq_true rfl) (Nat.le_of_ble_eq_true rfl) ?_
  refine mw_if_eq hX (tgt := 517) dL_cuts_510 (by decide) (fun h => absurd h (by decide)) (fun _ => ?_)
  refine mw_ic hX (nI 1) dL_cuts_513 rfl ?_
  refine mw_goto hX (tgt := 518) dL_cuts_514 (by decide) ?_
  refine mw_drop 0 ?_
  dsimp only [List.set]
  refine mw_clear hE rfl (y' := mw_yl []) (I' := mw_I0) (L' := mw_L0) rfl (oL_none oL_nil) (oS_cons trivial oS_nil) ?_
  exact mw_zreturn hX hE dL_cuts_518 rfl (Or.inr rfl) (Nat.le_of_ble_eq_true rfl) (Nat.le_of_ble_eq_true rfl)
