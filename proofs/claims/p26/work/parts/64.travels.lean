/-! travels (by program: wip/p26/gen63.py) -/
set_option maxRecDepth 20000 in
theorem l_travels (l : Launch) : mw_CT l yL_travels (.code yL_travels cL_travels 1 (some .boolean)) 15 2282 14389 [] (mw_yl [], mw_I0, mw_L0) (.inl (some (.int (nI 1)), mw_yl [], mw_I0, mw_L0)) := by
  refine mw_enter RL rfl (by decide +kernel) (mw_cat rfl) (Nat.le_of_ble_eq_true rfl) (fun X hX hl hE hT hnm => ?_)
  subst hl
  have hA : ([] : List mw_B).length = 0 := rfl
  show mw_G X 0 [none] [] (mw_yl ([] ++ [])) mw_I0 mw_L0 0 0
  refine gy_new hX hA (q := 1) (a := 0) (by decide) dL_travels_0 wn_L_8 (Nat.le_of_ble_eq_true rfl) (Nat.le_of_ble_eq_true rfl) rfl (oL_none oL_nil) oS_nil rfl (t' := [((5, 0), [none, none, none, none, none, none, none])]) rfl ?_
  refine mw_le (n' := 1) (k' := 7) (Nat.le_of_ble_eq_true rfl) (Nat.le_of_ble_eq_true rfl) ?_
  refine mw_dupR hX dL_travels_3 ?_
  refine mw_cI hX [] ws_L_99 dL_travels_4 (c_initW (mw_l X)) rfl (by decide) (Nat.le_of_ble_eq_true rfl) (Nat.le_of_ble_eq_true rfl) (Nat.le_of_ble_eq_true rfl) (oL_none oL_nil) (oS_cons (okr (by decide)) oS_nil) ?_
  refine mw_le (n' := 40) (k' := 637) (Nat.le_of_ble_eq_true rfl) (Nat.le_of_ble_eq_true rfl) ?_
  refine mw_relay (y' := mw_Y0) rfl gy_end ?_
  refine mw_mem st0_eq ?_
  refine mw_astore_n hX dL_travels_7 rfl (Nat.le_of_ble_eq_true rfl) ?_
  dsimp only [List.set]
  refine mw_aload_n hX dL_travels_8 rfl rfl ?_
  refine mw_cV hX [] ws_L_84 dL_travels_9 (c_hour (mw_l X) st0 mw_L0) (mw_Yl (by decide)) mw_YW (by decide) rfl (by decide) (Nat.le_of_ble_eq_true rfl) (Nat.le_of_ble_eq_true rfl) (Nat.le_of_ble_eq_true rfl) ?_
  refine mw_top (x := (nI 0)) (by decide +kernel) ?_
  refine mw_if_ne hX (tgt := 241) dL_travels_12 (by decide) (fun h => absurd h (by decide)) (fun _ => ?_)
  refine mw_aload_n hX dL_travels_15 rfl rfl ?_
  refine mw_ic hX (nI 0) dL_travels_16 rfl ?_
  refine mw_ic hX (nI 0) dL_travels_17 rfl ?_
  refine mw_ic hX (nI 0) dL_travels_18 rfl ?_
  refine mw_ic hX (nI 0) dL_travels_19 rfl ?_
  refine mw_ic hX (nI 0) dL_travels_20 rfl ?_
  refine mw_cS hX [_, _, _, _, _, _] ws_L_100 dL_travels_21 (l_pool (mw_l X) 0 (by decide) (nI 0) (nI 0) (nI 0) (nI 0) st0 mw_L0 (by decide +kernel)) rfl (by decide) (Nat.le_of_ble_eq_true rfl) (Nat.le_of_ble_eq_true rfl) (Nat.le_of_ble_eq_true rfl) ?_
  refine mw_le (n' := 47) (k' := 679) (Nat.le_of_ble_eq_true rfl) (Nat.le_of_ble_eq_true rfl) ?_
  refine mw_if_eq hX (tgt := 241) dL_travels_24 (by decide) (fun h => absurd h (by decide)) (fun _ => ?_)
  refine mw_aload_n hX dL_travels_27 rfl rfl ?_
  refine mw_ic hX (nI 1) dL_travels_28 rfl ?_
  refine mw_bp hX (nI 16) dL_travels_29 rfl ?_
  refine mw_cV hX [_, _] ws_L_70 dL_travels_31 (c_mix (mw_l X) 1 (by decide) (nI 16) (by unfold okR; decide) st0 mw_L0) (mw_Yl (by decide)) mw_YW (by decide) rfl (by decide) (Nat.le_of_ble_eq_true rfl) (Nat.le_of_ble_eq_true rfl) (Nat.le_of_ble_eq_true rfl) ?_
  refine mw_le (n' := 49) (k' := 691) (Nat.le_of_ble_eq_true rfl) (Nat.le_of_ble_eq_true rfl) ?_
  refine mw_top (x := (nI 160)) (by decide +kernel) ?_
  refine mw_sp hX (nI 160) dL_travels_34 rfl ?_
  refine mw_icmp_ne hX (tgt := 241) dL_travels_37 (by decide) (fun h => absurd h (by decide)) (fun _ => ?_)
  refine mw_aload_n hX dL_travels_40 rfl rfl ?_
  refine mw_ic hX (nI 0) dL_travels_41 rfl ?_
  refine mw_ic hX (nI 0) dL_travels_42 rfl ?_
  refine mw_cV hX [_, _] ws_L_70 dL_travels_43 (c_mix (mw_l X) 0 (by decide) (nI 0) (by unfold okR; decide) st0 mw_L0) (mw_Yl (by decide)) mw_YW (by decide) rfl (by decide) (Nat.le_of_ble_eq_true rfl) (Nat.le_of_ble_eq_true rfl) (Nat.le_of_ble_eq_true rfl) ?_
  refine mw_le (n' := 51) (k' := 703) (Nat.le_of_ble_eq_true rfl) (Nat.le_of_ble_eq_true rfl) ?_
  refine mw_top (x := (nI 0)) (by decide +kernel) ?_
  refine mw_if_ne hX (tgt := 241) dL_travels_46 (by decide) (fun h => absurd h (by decide)) (fun _ => ?_)
  refine mw_aload_n hX dL_travels_49 rfl rfl ?_
  refine mw_bp hX (nI 6) dL_travels_50 rfl ?_
  refine mw_cV hX [_] ws_L_73 dL_travels_52 (c_bestEnergy (mw_l X) 5 (by decide) 0 (by decide) st0 (by decide +kernel) mw_L0) (mw_Yl (by decide)) mw_YW (by decide) rfl (by decide) (Nat.le_of_ble_eq_true rfl) (Nat.le_of_ble_eq_true rfl) (Nat.le_of_ble_eq_true rfl) ?_
  refine mw_mem tv1_s ?_
  refine mw_le (n' := 52) (k' := 709) (Nat.le_of_ble_eq_true rfl) (Nat.le_of_ble_eq_true rfl) ?_
  refine mw_top (x := (nI 0)) tvv0 ?_
  refine mw_if_ne hX (tgt := 241) dL_travels_55 (by decide) (fun h => absurd h (by decide)) (fun _ => ?_)
  refine mw_aload_n hX dL_travels_58 rfl rfl ?_
  refine mw_ic hX (nI 1) dL_travels_59 rfl ?_
  refine mw_cV hX [_] ws_L_79 dL_travels_60 (c_bestRelease (mw_l X) 0 (by decide) 0 (by decide) tv1 (by decide +kernel) mw_L0) (mw_Yl (by decide)) mw_YW (by decide) rfl (by decide) (Nat.le_of_ble_eq_true rfl) (Nat.le_of_ble_eq_true rfl) (Nat.le_of_ble_eq_true rfl) ?_
  refine mw_mem tv2_s ?_
  refine mw_le (n' := 53) (k' := 715) (Nat.le_of_ble_eq_true rfl) (Nat.le_of_ble_eq_true rfl) ?_
  refine mw_top (x := (nI 0)) tvv1 ?_
  refine mw_if_ne hX (tgt := 241) dL_travels_63 (by decide) (fun h => absurd h (by decide)) (fun _ => ?_)
  refine mw_aload_n hX dL_travels_66 rfl rfl ?_
  refine mw_cS hX [_] ws_L_104 dL_travels_67 (l_refuses (mw_l X) tv2 mw_L0) rfl (by decide) (Nat.le_of_ble_eq_true rfl) (Nat.le_of_ble_eq_true rfl) (Nat.le_of_ble_eq_true rfl) ?_
  refine mw_le (n' := 753) (k' := 5015) (Nat.le_of_ble_eq_true rfl) (Nat.le_of_ble_eq_true rfl) ?_
  refine mw_if_eq hX (tgt := 241) dL_travels_70 (by decide) (fun h => absurd h (by decide)) (fun _ => ?_)
  refine mw_aload_n hX dL_travels_73 rfl rfl ?_
  refine mw_ic hX (nI 0) dL_travels_74 rfl ?_
  refine mw_bp hX (nI 10) dL_travels_75 rfl ?_
  refine mw_bp hX (nI 50) dL_travels_77 rfl ?_
  refine mw_cV hX [_, _, _] ws_L_15 dL_travels_79 (c_setInflow (mw_l X) 0 (by decide) (nI 10) (nI 50) (by unfold okR; decide) (by unfold okR; decide) tv2 mw_L0) (mw_Yl (by decide)) mw_YW (by decide) rfl (by decide) (Nat.le_of_ble_eq_true rfl) (Nat.le_of_ble_eq_true rfl) (Nat.le_of_ble_eq_true rfl) ?_
  refine mw_mem tv3_s ?_
  refine mw_le (n' := 756) (k' := 5033) (Nat.le_of_ble_eq_true rfl) (Nat.le_of_ble_eq_true rfl) ?_
  refine mw_top (x := (nI 0)) (by decide +kernel) ?_
  refine mw_if_ne hX (tgt := 241) dL_travels_82 (by decide) (fun h => absurd h (by decide)) (fun _ => ?_)
  refine mw_aload_n hX dL_travels_85 rfl rfl ?_
  refine mw_ic hX (nI 1) dL_travels_86 rfl ?_
  refine mw_cV hX [_] ws_L_30 dL_travels_87 (c_run (mw_l X) 1 (by decide) (by decide) 0 (by decide) (fun i => if i = 0 then 1 else if i = 1 then 1 else 1) tv3 (by decide +kernel) (by decide +kernel) mw_L0) (mw_Yl (by decide)) mw_YW (by decide) rfl (by decide) (Nat.le_of_ble_eq_true rfl) (Nat.le_of_ble_eq_true rfl) (Nat.le_of_ble_eq_true rfl) ?_
  refine mw_mem tv4_s ?_
  refine mw_le (n' := 757) (k' := 5039) (Nat.le_of_ble_eq_true rfl) (Nat.le_of_ble_eq_true rfl) ?_
  refine mw_top (x := (nI 1)) (hours_h (by decide +kernel) 1) ?_
  refine mw_ic hX (nI 1) dL_travels_90 rfl ?_
  refine mw_icmp_ne hX (tgt := 241) dL_travels_91 (by decide) (fun h => absurd h (by decide)) (fun _ => ?_)
  refine mw_aload_n hX dL_travels_94 rfl rfl ?_
  refine mw_ic hX (nI 0) dL_travels_95 rfl ?_
  refine mw_ic hX (nI 5) dL_travels_96 rfl ?_
  refine mw_ic hX (nI 5) dL_travels_97 rfl ?_
  refine mw_ic hX (nI 0) dL_travels_98 rfl ?_
  refine mw_ic hX (nI 0) dL_travels_99 rfl ?_
  refine mw_cS hX [_, _, _, _, _, _] ws_L_100 dL_travels_100 (l_pool (mw_l X) 0 (by decide) (nI 5) (nI 5) (nI 0) (nI 0) tv4 mw_L0 (by decide +kernel)) rfl (by decide) (Nat.le_of_ble_eq_true rfl) (Nat.le_of_ble_eq_true rfl) (Nat.le_of_ble_eq_true rfl) ?_
  refine mw_le (n' := 764) (k' := 5081) (Nat.le_of_ble_eq_true rfl) (Nat.le_of_ble_eq_true rfl) ?_
  refine mw_if_eq hX (tgt := 241) dL_travels_103 (by decide) (fun h => absurd h (by decide)) (fun _ => ?_)
  refine mw_aload_n hX dL_travels_106 rfl rfl ?_
  refine mw_ic hX (nI 0) dL_travels_107 rfl ?_
  refine mw_ic hX (nI 0) dL_travels_108 rfl ?_
  refine mw_ic hX (nI 4) dL_travels_109 rfl ?_
  refine mw_cV hX [_, _, _] ws_L_23 dL_travels_110 (c_order (mw_l X) 0 (by decide) 0 (by decide) (nI 4) (by unfold okR; decide) tv4 mw_L0) (mw_Yl (by decide)) mw_YW (by decide) rfl (by decide) (Nat.le_of_ble_eq_true rfl) (Nat.le_of_ble_eq_true rfl) (Nat.le_of_ble_eq_true rfl) ?_
  refine mw_mem tv5_s ?_
  refine mw_le (n' := 767) (k' := 5099) (Nat.le_of_ble_eq_true rfl) (Nat.le_of_ble_eq_true rfl) ?_
  refine mw_top (x := (nI 0)) (by decide +kernel) ?_
  refine mw_if_ne hX (tgt := 241) dL_travels_113 (by decide) (fun h => absurd h (by decide)) (fun _ => ?_)
  refine mw_aload_n hX dL_travels_116 rfl rfl ?_
  refine mw_ic hX (nI 0) dL_travels_117 rfl ?_
  refine mw_ic hX (nI 1) dL_travels_118 rfl ?_
  refine mw_ic hX (nI 2) dL_travels_119 rfl ?_
  refine mw_cV hX [_, _, _] ws_L_23 dL_travels_120 (c_order (mw_l X) 0 (by decide) 1 (by decide) (nI 2) (by unfold okR; decide) tv5 mw_L0) (mw_Yl (by decide)) mw_YW (by decide) rfl (by decide) (Nat.le_of_ble_eq_true rfl) (Nat.le_of_ble_eq_true rfl) (Nat.le_of_ble_eq_true rfl) ?_
  refine mw_mem tv6_s ?_
  refine mw_le (n' := 770) (k' := 5117) (Nat.le_of_ble_eq_true rfl) (Nat.le_of_ble_eq_true rfl) ?_
  refine mw_top (x := (nI 0)) (by decide +kernel) ?_
  refine mw_if_ne hX (tgt := 241) dL_travels_123 (by decide) (fun h => absurd h (by decide)) (fun _ => ?_)
  refine mw_aload_n hX dL_travels_126 rfl rfl ?_
  refine mw_ic hX (nI 1) dL_travels_127 rfl ?_
  refine mw_cV hX [_] ws_L_30 dL_travels_128 (c_run (mw_l X) 1 (by decide) (by decide) 1 (by decide) (fun i => if i = 0 then 1 else if i = 1 then 1 else 1) tv6 (by decide +kernel) (by decide +kernel) mw_L0) (mw_Yl (by decide)) mw_YW (by decide) rfl (by decide) (Nat.le_of_ble_eq_true rfl) (Nat.le_of_ble_eq_true rfl) (Nat.le_of_ble_eq_true rfl) ?_
  refine mw_mem tv7_s ?_
  refine mw_le (n' := 771) (k' := 5123) (Nat.le_of_ble_eq_true rfl) (Nat.le_of_ble_eq_true rfl) ?_
  refine mw_top (x := (nI 2)) (hours_h (by decide +kernel) 1) ?_
  refine mw_ic hX (nI 2) dL_travels_131 rfl ?_
  refine mw_icmp_ne hX (tgt := 241) dL_travels_132 (by decide) (fun h => absurd h (by decide)) (fun _ => ?_)
  refine mw_aload_n hX dL_travels_135 rfl rfl ?_
  refine mw_ic hX (nI 0) dL_travels_136 rfl ?_
  refine mw_bp hX (nI 6) dL_travels_137 rfl ?_
  refine mw_bp hX (nI 8) dL_travels_139 rfl ?_
  refine mw_bp hX (nI 6) dL_travels_141 rfl ?_
  refine mw_bp hX (nI 84) dL_travels_143 rfl ?_
  refine mw_cS hX [_, _, _, _, _, _] ws_L_100 dL_travels_145 (l_pool (mw_l X) 0 (by decide) (nI 6) (nI 8) (nI 6) (nI 84) tv7 mw_L0 (by decide +kernel)) rfl (by decide) (Nat.le_of_ble_eq_true rfl) (Nat.le_of_ble_eq_true rfl) (Nat.le_of_ble_eq_true rfl) ?_
  refine mw_le (n' := 778) (k' := 5165) (Nat.le_of_ble_eq_true rfl) (Nat.le_of_ble_eq_true rfl) ?_
  refine mw_if_eq hX (tgt := 241) dL_travels_148 (by decide) (fun h => absurd h (by decide)) (fun _ => ?_)
  refine mw_aload_n hX dL_travels_151 rfl rfl ?_
  refine mw_ic hX (nI 1) dL_travels_152 rfl ?_
  refine mw_ic hX (nI 0) dL_travels_153 rfl ?_
  refine mw_ic hX (nI 2) dL_travels_154 rfl ?_
  refine mw_cV hX [_, _, _] ws_L_46 dL_travels_155 (c_arriving (mw_l X) tv7 1 (by decide) (by decide) 0 (by decide) 2 (by decide) 2 (by decide) (by decide +kernel) mw_L0) (mw_Yl (by decide)) mw_YW (by decide) rfl (by decide) (Nat.le_of_ble_eq_true rfl) (Nat.le_of_ble_eq_true rfl) (Nat.le_of_ble_eq_true rfl) ?_
  refine mw_le (n' := 781) (k' := 5183) (Nat.le_of_ble_eq_true rfl) (Nat.le_of_ble_eq_true rfl) ?_
  refine mw_top (x := (nI 4)) (by decide +kernel) ?_
  refine mw_ic hX (nI 4) dL_travels_158 rfl ?_
  refine mw_icmp_ne hX (tgt := 241) dL_travels_159 (by decide) (fun h => absurd h (by decide)) (fun _ => ?_)
  refine mw_aload_n hX dL_travels_162 rfl rfl ?_
  refine mw_ic hX (nI 1) dL_travels_163 rfl ?_
  refine mw_ic hX (nI 1) dL_travels_164 rfl ?_
  refine mw_ic hX (nI 2) dL_travels_165 rfl ?_
  refine mw_cV hX [_, _, _] ws_L_46 dL_travels_166 (c_arriving (mw_l X) tv7 1 (by decide) (by decide) 1 (by decide) 2 (by decide) 2 (by decide) (by decide +kernel) mw_L0) (mw_Yl (by decide)) mw_YW (by decide) rfl (by decide) (Nat.le_of_ble_eq_true rfl) (Nat.le_of_ble_eq_true rfl) (Nat.le_of_ble_eq_true rfl) ?_
  refine mw_le (n' := 784) (k' := 5201) (Nat.le_of_ble_eq_true rfl) (Nat.le_of_ble_eq_true rfl) ?_
  refine mw_top (x := (nI 2)) (by decide +kernel) ?_
  refine mw_ic hX (nI 2) dL_travels_169 rfl ?_
  refine mw_icmp_ne hX (tgt := 241) dL_travels_170 (by decide) (fun h => absurd h (by decide)) (fun _ => ?_)
  refine mw_aload_n hX dL_travels_173 rfl rfl ?_
  refine mw_ic hX (nI 1) dL_travels_174 rfl ?_
  refine mw_ic hX (nI 0) dL_travels_175 rfl ?_
  refine mw_ic hX (nI 3) dL_travels_176 rfl ?_
  refine mw_cV hX [_, _, _] ws_L_46 dL_travels_177 (c_arriving (mw_l X) tv7 1 (by decide) (by decide) 0 (by decide) 3 (by decide) 2 (by decide) (by decide +kernel) mw_L0) (mw_Yl (by decide)) mw_YW (by decide) rfl (by decide) (Nat.le_of_ble_eq_true rfl) (Nat.le_of_ble_eq_true rfl) (Nat.le_of_ble_eq_true rfl) ?_
  refine mw_le (n' := 787) (k' := 5219) (Nat.le_of_ble_eq_true rfl) (Nat.le_of_ble_eq_true rfl) ?_
  refine mw_top (x := (nI 0)) (by decide +kernel) ?_
  refine mw_if_ne hX (tgt := 241) dL_travels_180 (by decide) (fun h => absurd h (by decide)) (fun _ => ?_)
  refine mw_aload_n hX dL_travels_183 rfl rfl ?_
  refine mw_ic hX (nI 1) dL_travels_184 rfl ?_
  refine mw_ic hX (nI 0) dL_travels_185 rfl ?_
  refine mw_sp hX (nI 300) dL_travels_186 rfl ?_
  refine mw_cV hX [_, _, _] ws_L_46 dL_travels_189 (c_arriving (mw_l X) tv7 1 (by decide) (by decide) 0 (by decide) 300 (by decide) 2 (by decide) (by decide +kernel) mw_L0) (mw_Yl (by decide)) mw_YW (by decide) rfl (by decide) (Nat.le_of_ble_eq_true rfl) (Nat.le_of_ble_eq_true rfl) (Nat.le_of_ble_eq_true rfl) ?_
  refine mw_le (n' := 790) (k' := 5237) (Nat.le_of_ble_eq_true rfl) (Nat.le_of_ble_eq_true rfl) ?_
  refine mw_top (x := (nI 0)) (by decide +kernel) ?_
  refine mw_if_ne hX (tgt := 241) dL_travels_192 (by decide) (fun h => absurd h (by decide)) (fun _ => ?_)
  refine mw_aload_n hX dL_travels_195 rfl rfl ?_
  refine mw_ic hX (nI 1) dL_travels_196 rfl ?_
  refine mw_ic hX (nI 0) dL_travels_197 rfl ?_
  refine mw_cV hX [_, _] ws_L_43 dL_travels_198 (c_travelling (mw_l X) 1 (by decide) (by decide) 0 (by decide) tv7 mw_L0) (mw_Yl (by decide)) mw_YW (by decide) rfl (by decide) (Nat.le_of_ble_eq_true rfl) (Nat.le_of_ble_eq_true rfl) (Nat.le_of_ble_eq_true rfl) ?_
  refine mw_le (n' := 792) (k' := 5249) (Nat.le_of_ble_eq_true rfl) (Nat.le_of_ble_eq_true rfl) ?_
  refine mw_top (x := (nI 4)) (by decide +kernel) ?_
  refine mw_ic hX (nI 4) dL_travels_201 rfl ?_
  refine mw_icmp_ne hX (tgt := 241) dL_travels_202 (by decide) (fun h => absurd h (by decide)) (fun _ => ?_)
  refine mw_aload_n hX dL_travels_205 rfl rfl ?_
  refine mw_ic hX (nI 2) dL_travels_206 rfl ?_
  refine mw_ic hX (nI 0) dL_travels_207 rfl ?_
  refine mw_cV hX [_, _] ws_L_43 dL_travels_208 (c_travelling (mw_l X) 2 (by decide) (by decide) 0 (by decide) tv7 mw_L0) (mw_Yl (by decide)) mw_YW (by decide) rfl (by decide) (Nat.le_of_ble_eq_true rfl) (Nat.le_of_ble_eq_true rfl) (Nat.le_of_ble_eq_true rfl) ?_
  refine mw_le (n' := 794) (k' := 5261) (Nat.le_of_ble_eq_true rfl) (Nat.le_of_ble_eq_true rfl) ?_
  refine mw_top (x := (nI 0)) (by decide +kernel) ?_
  refine mw_if_ne hX (tgt := 241) dL_travels_211 (by decide) (fun h => absurd h (by decide)) (fun _ => ?_)
  refine mw_aload_n hX dL_travels_214 rfl rfl ?_
  refine mw_ic hX (nI 0) dL_travels_215 rfl ?_
  refine mw_cV hX [_] ws_L_49 dL_travels_216 (c_cameIn (mw_l X) 0 (by decide) tv7 mw_L0) (mw_Yl (by decide)) mw_YW (by decide) rfl (by decide) (Nat.le_of_ble_eq_true rfl) (Nat.le_of_ble_eq_true rfl) (Nat.le_of_ble_eq_true rfl) ?_
  refine mw_le (n' := 795) (k' := 5267) (Nat.le_of_ble_eq_true rfl) (Nat.le_of_ble_eq_true rfl) ?_
  refine mw_top (x := (nI 10)) (by decide +kernel) ?_
  refine mw_bp hX (nI 10) dL_travels_219 rfl ?_
  refine mw_icmp_ne hX (tgt := 241) dL_travels_221 (by decide) (fun h => absurd h (by decide)) (fun _ => ?_)
  refine mw_aload_n hX dL_travels_224 rfl rfl ?_
  refine mw_ic hX (nI 1) dL_travels_225 rfl ?_
  refine mw_cV hX [_] ws_L_55 dL_travels_226 (c_balance (mw_l X) 1 (by decide) tv7 mw_L0) (mw_Yl (by decide)) mw_YW (by decide) rfl (by decide) (Nat.le_of_ble_eq_true rfl) (Nat.le_of_ble_eq_true rfl) (Nat.le_of_ble_eq_true rfl) ?_
  refine mw_le (n' := 796) (k' := 5273) (Nat.le_of_ble_eq_true rfl) (Nat.le_of_ble_eq_true rfl) ?_
  refine mw_top (x := (nI 10)) (by decide +kernel) ?_
  refine mw_bp hX (nI 10) dL_travels_229 rfl ?_
  refine mw_icmp_ne hX (tgt := 241) dL_travels_231 (by decide) (fun h => absurd h (by decide)) (fun _ => ?_)
  refine mw_aload_n hX dL_travels_234 rfl rfl ?_
  refine mw_cS hX [_] ws_L_104 dL_travels_235 (l_refuses (mw_l X) tv7 mw_L0) rfl (by decide) (Nat.le_of_ble_eq_true rfl) (Nat.le_of_ble_eq_true rfl) (Nat.le_of_ble_eq_true rfl) ?_
  refine mw_le (n' := 1496) (k' := 9573) (Nat.le_of_ble_eq_true rfl) (Nat.le_of_ble_eq_true rfl) ?_
  refine mw_if_ne hX (tgt := 243) dL_travels_238 (by decide) (fun _ => ?_) (fun h => absurd h (by decide))
  refine mw_aload_n hX dL_travels_243 rfl rfl ?_
  refine mw_ic hX (nI 1) dL_travels_244 rfl ?_
  refine mw_cV hX [_] ws_L_30 dL_travels_245 (c_run (mw_l X) 1 (by decide) (by decide) 2 (by decide) (fun i => if i = 0 then 1 else if i = 1 then 1 else 1) tv7 (by decide +kernel) (by decide +kernel) mw_L0) (mw_Yl (by decide)) mw_YW (by decide) rfl (by decide) (Nat.le_of_ble_eq_true rfl) (Nat.le_of_ble_eq_true rfl) (Nat.le_of_ble_eq_true rfl) ?_
  refine mw_mem tv8_s ?_
  refine mw_le (n' := 1497) (k' := 9579) (Nat.le_of_ble_eq_true rfl) (Nat.le_of_ble_eq_true rfl) ?_
  refine mw_top (x := (nI 3)) (hours_h (by decide +kernel) 1) ?_
  refine mw_ic hX (nI 3) dL_travels_248 rfl ?_
  refine mw_icmp_ne hX (tgt := 443) dL_travels_249 (by decide) (fun h => absurd h (by decide)) (fun _ => ?_)
  refine mw_aload_n hX dL_travels_252 rfl rfl ?_
  refine mw_ic hX (nI 0) dL_travels_253 rfl ?_
  refine mw_bp hX (nI 7) dL_travels_254 rfl ?_
  refine mw_bp hX (nI 11) dL_travels_256 rfl ?_
  refine mw_bp hX (nI 6) dL_travels_258 rfl ?_
  refine mw_sp hX (nI 168) dL_travels_260 rfl ?_
  refine mw_cS hX [_, _, _, _, _, _] ws_L_100 dL_travels_263 (l_pool (mw_l X) 0 (by decide) (nI 7) (nI 11) (nI 6) (nI 168) tv8 mw_L0 (by decide +kernel)) rfl (by decide) (Nat.le_of_ble_eq_true rfl) (Nat.le_of_ble_eq_true rfl) (Nat.le_of_ble_eq_true rfl) ?_
  refine mw_le (n' := 1504) (k' := 9621) (Nat.le_of_ble_eq_true rfl) (Nat.le_of_ble_eq_true rfl) ?_
  refine mw_if_eq hX (tgt := 443) dL_travels_266 (by decide) (fun h => absurd h (by decide)) (fun _ => ?_)
  refine mw_aload_n hX dL_travels_269 rfl rfl ?_
  refine mw_ic hX (nI 1) dL_travels_270 rfl ?_
  refine mw_ic hX (nI 4) dL_travels_271 rfl ?_
  refine mw_ic hX (nI 2) dL_travels_272 rfl ?_
  refine mw_ic hX (nI 0) dL_travels_273 rfl ?_
  refine mw_ic hX (nI 0) dL_travels_274 rfl ?_
  refine mw_cS hX [_, _, _, _, _, _] ws_L_100 dL_travels_275 (l_pool (mw_l X) 1 (by decide) (nI 4) (nI 2) (nI 0) (nI 0) tv8 mw_L0 (by decide +kernel)) rfl (by decide) (Nat.le_of_ble_eq_true rfl) (Nat.le_of_ble_eq_true rfl) (Nat.le_of_ble_eq_true rfl) ?_
  refine mw_le (n' := 1511) (k' := 9663) (Nat.le_of_ble_eq_true rfl) (Nat.le_of_ble_eq_true rfl) ?_
  refine mw_if_eq hX (tgt := 443) dL_travels_278 (by decide) (fun h => absurd h (by decide)) (fun _ => ?_)
  refine mw_aload_n hX dL_travels_281 rfl rfl ?_
  refine mw_ic hX (nI 1) dL_travels_282 rfl ?_
  refine mw_ic hX (nI 0) dL_travels_283 rfl ?_
  refine mw_ic hX (nI 2) dL_travels_284 rfl ?_
  refine mw_cV hX [_, _, _] ws_L_46 dL_travels_285 (c_arriving (mw_l X) tv8 1 (by decide) (by decide) 0 (by decide) 2 (by decide) 3 (by decide) (by decide +kernel) mw_L0) (mw_Yl (by decide)) mw_YW (by decide) rfl (by decide) (Nat.le_of_ble_eq_true rfl) (Nat.le_of_ble_eq_true rfl) (Nat.le_of_ble_eq_true rfl) ?_
  refine mw_le (n' := 1514) (k' := 9681) (Nat.le_of_ble_eq_true rfl) (Nat.le_of_ble_eq_true rfl) ?_
  refine mw_top (x := (nI 0)) (by decide +kernel) ?_
  refine mw_if_ne hX (tgt := 443) dL_travels_288 (by decide) (fun h => absurd h (by decide)) (fun _ => ?_)
  refine mw_aload_n hX dL_travels_291 rfl rfl ?_
  refine mw_ic hX (nI 1) dL_travels_292 rfl ?_
  refine mw_ic hX (nI 0) dL_travels_293 rfl ?_
  refine mw_ic hX (nI 3) dL_travels_294 rfl ?_
  refine mw_cV hX [_, _, _] ws_L_46 dL_travels_295 (c_arriving (mw_l X) tv8 1 (by decide) (by decide) 0 (by decide) 3 (by decide) 3 (by decide) (by decide +kernel) mw_L0) (mw_Yl (by decide)) mw_YW (by decide) rfl (by decide) (Nat.le_of_ble_eq_true rfl) (Nat.le_of_ble_eq_true rfl) (Nat.le_of_ble_eq_true rfl) ?_
  refine mw_le (n' := 1517) (k' := 9699) (Nat.le_of_ble_eq_true rfl) (Nat.le_of_ble_eq_true rfl) ?_
  refine mw_top (x := (nI 4)) (by decide +kernel) ?_
  refine mw_ic hX (nI 4) dL_travels_298 rfl ?_
  refine mw_icmp_ne hX (tgt := 443) dL_travels_299 (by decide) (fun h => absurd h (by decide)) (fun _ => ?_)
  refine mw_aload_n hX dL_travels_302 rfl rfl ?_
  refine mw_ic hX (nI 1) dL_travels_303 rfl ?_
  refine mw_ic hX (nI 3) dL_travels_304 rfl ?_
  refine mw_cV hX [_, _] ws_L_19 dL_travels_305 (c_setMinimum (mw_l X) 1 (by decide) (nI 3) (by unfold okR; decide) tv8 mw_L0) (mw_Yl (by decide)) mw_YW (by decide) rfl (by decide) (Nat.le_of_ble_eq_true rfl) (Nat.le_of_ble_eq_true rfl) (Nat.le_of_ble_eq_true rfl) ?_
  refine mw_mem tv9_s ?_
  refine mw_le (n' := 1519) (k' := 9711) (Nat.le_of_ble_eq_true rfl) (Nat.le_of_ble_eq_true rfl) ?_
  refine mw_top (x := (nI 0)) (by decide +kernel) ?_
  refine mw_if_ne hX (tgt := 443) dL_travels_308 (by decide) (fun h => absurd h (by decide)) (fun _ => ?_)
  refine mw_aload_n hX dL_travels_311 rfl rfl ?_
  refine mw_ic hX (nI 1) dL_travels_312 rfl ?_
  refine mw_cV hX [_] ws_L_30 dL_travels_313 (c_run (mw_l X) 1 (by decide) (by decide) 3 (by decide) (fun i => if i = 0 then 1 else if i = 1 then 1 else 1) tv9 (by decide +kernel) (by decide +kernel) mw_L0) (mw_Yl (by decide)) mw_YW (by decide) rfl (by decide) (Nat.le_of_ble_eq_true rfl) (Nat.le_of_ble_eq_true rfl) (Nat.le_of_ble_eq_true rfl) ?_
  refine mw_mem tv10_s ?_
  refine mw_le (n' := 1520) (k' := 9717) (Nat.le_of_ble_eq_true rfl) (Nat.le_of_ble_eq_true rfl) ?_
  refine mw_top (x := (nI 4)) (hours_h (by decide +kernel) 1) ?_
  refine mw_ic hX (nI 4) dL_travels_316 rfl ?_
  refine mw_icmp_ne hX (tgt := 443) dL_travels_317 (by decide) (fun h => absurd h (by decide)) (fun _ => ?_)
  refine mw_aload_n hX dL_travels_320 rfl rfl ?_
  refine mw_ic hX (nI 0) dL_travels_321 rfl ?_
  refine mw_bp hX (nI 8) dL_travels_322 rfl ?_
  refine mw_bp hX (nI 14) dL_travels_324 rfl ?_
  refine mw_bp hX (nI 6) dL_travels_326 rfl ?_
  refine mw_sp hX (nI 258) dL_travels_328 rfl ?_
  refine mw_cS hX [_, _, _, _, _, _] ws_L_100 dL_travels_331 (l_pool (mw_l X) 0 (by decide) (nI 8) (nI 14) (nI 6) (nI 258) tv10 mw_L0 (by decide +kernel)) rfl (by decide) (Nat.le_of_ble_eq_true rfl) (Nat.le_of_ble_eq_true rfl) (Nat.le_of_ble_eq_true rfl) ?_
  refine mw_le (n' := 1527) (k' := 9759) (Nat.le_of_ble_eq_true rfl) (Nat.le_of_ble_eq_true rfl) ?_
  refine mw_if_eq hX (tgt := 443) dL_travels_334 (by decide) (fun h => absurd h (by decide)) (fun _ => ?_)
  refine mw_aload_n hX dL_travels_337 rfl rfl ?_
  refine mw_ic hX (nI 1) dL_travels_338 rfl ?_
  refine mw_ic hX (nI 5) dL_travels_339 rfl ?_
  refine mw_ic hX (nI 4) dL_travels_340 rfl ?_
  refine mw_ic hX (nI 3) dL_travels_341 rfl ?_
  refine mw_bp hX (nI 36) dL_travels_342 rfl ?_
  refine mw_cS hX [_, _, _, _, _, _] ws_L_100 dL_travels_344 (l_pool (mw_l X) 1 (by decide) (nI 5) (nI 4) (nI 3) (nI 36) tv10 mw_L0 (by decide +kernel)) rfl (by decide) (Nat.le_of_ble_eq_true rfl) (Nat.le_of_ble_eq_true rfl) (Nat.le_of_ble_eq_true rfl) ?_
  refine mw_le (n' := 1534) (k' := 9801) (Nat.le_of_ble_eq_true rfl) (Nat.le_of_ble_eq_true rfl) ?_
  refine mw_if_eq hX (tgt := 443) dL_travels_347 (by decide) (fun h => absurd h (by decide)) (fun _ => ?_)
  refine mw_aload_n hX dL_travels_350 rfl rfl ?_
  refine mw_ic hX (nI 1) dL_travels_351 rfl ?_
  refine mw_cV hX [_] ws_L_61 dL_travels_352 (c_missed (mw_l X) 1 (by decide) tv10 mw_L0) (mw_Yl (by decide)) mw_YW (by decide) rfl (by decide) (Nat.le_of_ble_eq_true rfl) (Nat.le_of_ble_eq_true rfl) (Nat.le_of_ble_eq_true rfl) ?_
  refine mw_le (n' := 1535) (k' := 9807) (Nat.le_of_ble_eq_true rfl) (Nat.le_of_ble_eq_true rfl) ?_
  refine mw_top (x := (nI 0)) (by decide +kernel) ?_
  refine mw_if_ne hX (tgt := 443) dL_travels_355 (by decide) (fun h => absurd h (by decide)) (fun _ => ?_)
  refine mw_aload_n hX dL_travels_358 rfl rfl ?_
  refine mw_ic hX (nI 2) dL_travels_359 rfl ?_
  refine mw_ic hX (nI 0) dL_travels_360 rfl ?_
  refine mw_cV hX [_, _] ws_L_43 dL_travels_361 (c_travelling (mw_l X) 2 (by decide) (by decide) 0 (by decide) tv10 mw_L0) (mw_Yl (by decide)) mw_YW (by decide) rfl (by decide) (Nat.le_of_ble_eq_true rfl) (Nat.le_of_ble_eq_true rfl) (Nat.le_of_ble_eq_true rfl) ?_
  refine mw_le (n' := 1537) (k' := 9819) (Nat.le_of_ble_eq_true rfl) (Nat.le_of_ble_eq_true rfl) ?_
  refine mw_top (x := (nI 3)) (by decide +kernel) ?_
  refine mw_ic hX (nI 3) dL_travels_364 rfl ?_
  refine mw_icmp_ne hX (tgt := 443) dL_travels_365 (by decide) (fun h => absurd h (by decide)) (fun _ => ?_)
  refine mw_aload_n hX dL_travels_368 rfl rfl ?_
  refine mw_ic hX (nI 2) dL_travels_369 rfl ?_
  refine mw_ic hX (nI 1) dL_travels_370 rfl ?_
  refine mw_cV hX [_, _] ws_L_43 dL_travels_371 (c_travelling (mw_l X) 2 (by decide) (by decide) 1 (by decide) tv10 mw_L0) (mw_Yl (by decide)) mw_YW (by decide) rfl (by decide) (Nat.le_of_ble_eq_true rfl) (Nat.le_of_ble_eq_true rfl) (Nat.le_of_ble_eq_true rfl) ?_
  refine mw_le (n' := 1539) (k' := 9831) (Nat.le_of_ble_eq_true rfl) (Nat.le_of_ble_eq_true rfl) ?_
  refine mw_top (x := (nI 0)) (by decide +kernel) ?_
  refine mw_if_ne hX (tgt := 443) dL_travels_374 (by decide) (fun h => absurd h (by decide)) (fun _ => ?_)
  refine mw_aload_n hX dL_travels_377 rfl rfl ?_
  refine mw_ic hX (nI 0) dL_travels_378 rfl ?_
  refine mw_ic hX (nI 1) dL_travels_379 rfl ?_
  refine mw_bp hX (nI 10) dL_travels_380 rfl ?_
  refine mw_cV hX [_, _, _] ws_L_34 dL_travels_382 (c_lend (mw_l X) tv10 0 (by decide) 1 (by decide) (nI 10) (by unfold okR; decide) (by decide +kernel) mw_L0) (mw_Yl (by decide)) mw_YW (by decide) rfl (by decide) (Nat.le_of_ble_eq_true rfl) (Nat.le_of_ble_eq_true rfl) (Nat.le_of_ble_eq_true rfl) ?_
  refine mw_mem tv11_s ?_
  refine mw_le (n' := 1542) (k' := 9849) (Nat.le_of_ble_eq_true rfl) (Nat.le_of_ble_eq_true rfl) ?_
  refine mw_top (x := (nI 4)) (by decide +kernel) ?_
  refine mw_ic hX (nI 4) dL_travels_385 rfl ?_
  refine mw_icmp_ne hX (tgt := 443) dL_travels_386 (by decide) (fun h => absurd h (by decide)) (fun _ => ?_)
  refine mw_aload_n hX dL_travels_389 rfl rfl ?_
  refine mw_ic hX (nI 0) dL_travels_390 rfl ?_
  refine mw_ic hX (nI 0) dL_travels_391 rfl ?_
  refine mw_cV hX [_, _] ws_L_37 dL_travels_392 (c_account (mw_l X) 0 (by decide) 0 (by decide) tv11 mw_L0) (mw_Yl (by decide)) mw_YW (by decide) rfl (by decide) (Nat.le_of_ble_eq_true rfl) (Nat.le_of_ble_eq_true rfl) (Nat.le_of_ble_eq_true rfl) ?_
  refine mw_le (n' := 1544) (k' := 9861) (Nat.le_of_ble_eq_true rfl) (Nat.le_of_ble_eq_true rfl) ?_
  refine mw_top (x := (nI 18)) (by decide +kernel) ?_
  refine mw_bp hX (nI 18) dL_travels_395 rfl ?_
  refine mw_icmp_ne hX (tgt := 443) dL_travels_397 (by decide) (fun h => absurd h (by decide)) (fun _ => ?_)
  refine mw_aload_n hX dL_travels_400 rfl rfl ?_
  refine mw_ic hX (nI 0) dL_travels_401 rfl ?_
  refine mw_cV hX [_] ws_L_55 dL_travels_402 (c_balance (mw_l X) 0 (by decide) tv11 mw_L0) (mw_Yl (by decide)) mw_YW (by decide) rfl (by decide) (Nat.le_of_ble_eq_true rfl) (Nat.le_of_ble_eq_true rfl) (Nat.le_of_ble_eq_true rfl) ?_
  refine mw_le (n' := 1545) (k' := 9867) (Nat.le_of_ble_eq_true rfl) (Nat.le_of_ble_eq_true rfl) ?_
  refine mw_top (x := (nI 30)) (by decide +kernel) ?_
  refine mw_bp hX (nI 30) dL_travels_405 rfl ?_
  refine mw_icmp_ne hX (tgt := 443) dL_travels_407 (by decide) (fun h => absurd h (by decide)) (fun _ => ?_)
  refine mw_aload_n hX dL_travels_410 rfl rfl ?_
  refine mw_ic hX (nI 1) dL_travels_411 rfl ?_
  refine mw_cV hX [_] ws_L_55 dL_travels_412 (c_balance (mw_l X) 1 (by decide) tv11 mw_L0) (mw_Yl (by decide)) mw_YW (by decide) rfl (by decide) (Nat.le_of_ble_eq_true rfl) (Nat.le_of_ble_eq_true rfl) (Nat.le_of_ble_eq_true rfl) ?_
  refine mw_le (n' := 1546) (k' := 9873) (Nat.le_of_ble_eq_true rfl) (Nat.le_of_ble_eq_true rfl) ?_
  refine mw_top (x := (nI 10)) (by decide +kernel) ?_
  refine mw_bp hX (nI 10) dL_travels_415 rfl ?_
  refine mw_icmp_ne hX (tgt := 443) dL_travels_417 (by decide) (fun h => absurd h (by decide)) (fun _ => ?_)
  refine mw_aload_n hX dL_travels_420 rfl rfl ?_
  refine mw_ic hX (nI 5) dL_travels_421 rfl ?_
  refine mw_ic hX (nI 0) dL_travels_422 rfl ?_
  refine mw_ic hX (nI 1) dL_travels_423 rfl ?_
  refine mw_ic hX (nI 5) dL_travels_424 rfl ?_
  refine mw_ic hX (nI 0) dL_travels_425 rfl ?_
  refine mw_cSH hX [_, _, _, _, _, _] ws_L_95 dL_travels_426 (w_lendS (mw_l X) (nI 0) (nI 1) (nI 5) (nI 0) _ _ _ (by decide) (by decide) (by decide) (c_lendS (mw_l X) tv11 0 (by decide) 1 (by decide) (nI 5) (by unfold okR; decide) (by decide +kernel) mw_L0)) rfl (by decide) (Nat.le_of_ble_eq_true rfl) (Nat.le_of_ble_eq_true rfl) (Nat.le_of_ble_eq_true rfl) ?_
  refine mw_le (n' := 1550) (k' := 9897) (Nat.le_of_ble_eq_true rfl) (Nat.le_of_ble_eq_true rfl) ?_
  refine mw_sp hX (-8003) dL_travels_429 rfl ?_
  refine mw_icmp_ne hX (tgt := 443) dL_travels_432 (by decide) (fun h => absurd h (by decide)) (fun _ => ?_)
  refine mw_aload_n hX dL_travels_435 rfl rfl ?_
  refine mw_ic hX (nI 0) dL_travels_436 rfl ?_
  refine mw_cV hX [_] ws_L_52 dL_travels_437 (c_gone (mw_l X) 0 (by decide) tv11 mw_L0) (mw_Yl (by decide)) mw_YW (by decide) rfl (by decide) (Nat.le_of_ble_eq_true rfl) (Nat.le_of_ble_eq_true rfl) (Nat.le_of_ble_eq_true rfl) ?_
  refine mw_le (n' := 1551) (k' := 9903) (Nat.le_of_ble_eq_true rfl) (Nat.le_of_ble_eq_true rfl) ?_
  refine mw_top (x := (nI 0)) (by decide +kernel) ?_
  refine mw_if_eq hX (tgt := 445) dL_travels_440 (by decide) (fun _ => ?_) (fun h => absurd h (by decide))
  refine mw_aload_n hX dL_travels_445 rfl rfl ?_
  refine mw_ic hX (nI 0) dL_travels_446 rfl ?_
  refine mw_bp hX (nI 100) dL_travels_447 rfl ?_
  refine mw_bp hX (nI 10) dL_travels_449 rfl ?_
  refine mw_ic hX (nI 5) dL_travels_451 rfl ?_
  refine mw_cSH hX [_, _, _, _, _] ws_L_89 dL_travels_452 (w_pond (mw_l X) (nI 0) (nI 100) (nI 10) (nI 5) _ _ _ (by decide) (by decide) (by decide) (c_setPond (mw_l X) 0 (by decide) (nI 100) (nI 10) (nI 5) (by unfold okR; decide) (by unfold okR; decide) (by unfold okR; decide) tv11 mw_L0)) rfl (by decide) (Nat.le_of_ble_eq_true rfl) (Nat.le_of_ble_eq_true rfl) (Nat.le_of_ble_eq_true rfl) ?_
  refine mw_mem tv12_s ?_
  refine mw_le (n' := 1555) (k' := 9927) (Nat.le_of_ble_eq_true rfl) (Nat.le_of_ble_eq_true rfl) ?_
  refine mw_if_ne hX (tgt := 587) dL_travels_455 (by decide) (fun h => absurd h (by decide)) (fun _ => ?_)
  refine mw_aload_n hX dL_travels_458 rfl rfl ?_
  refine mw_ic hX (nI 1) dL_travels_459 rfl ?_
  refine mw_cV hX [_] ws_L_30 dL_travels_460 (c_run (mw_l X) 1 (by decide) (by decide) 4 (by decide) (fun i => if i = 0 then 5 else if i = 1 then 1 else 1) tv12 (by decide +kernel) (by decide +kernel) mw_L0) (mw_Yl (by decide)) mw_YW (by decide) rfl (by decide) (Nat.le_of_ble_eq_true rfl) (Nat.le_of_ble_eq_true rfl) (Nat.le_of_ble_eq_true rfl) ?_
  refine mw_mem tv13_s ?_
  refine mw_le (n' := 1556) (k' := 9933) (Nat.le_of_ble_eq_true rfl) (Nat.le_of_ble_eq_true rfl) ?_
  refine mw_top (x := (nI 5)) (hours_h (by decide +kernel) 1) ?_
  refine mw_ic hX (nI 5) dL_travels_463 rfl ?_
  refine mw_icmp_ne hX (tgt := 587) dL_travels_464 (by decide) (fun h => absurd h (by decide)) (fun _ => ?_)
  refine mw_aload_n hX dL_travels_467 rfl rfl ?_
  refine mw_ic hX (nI 1) dL_travels_468 rfl ?_
  refine mw_ic hX (nI 0) dL_travels_469 rfl ?_
  refine mw_bp hX (nI 9) dL_travels_470 rfl ?_
  refine mw_cV hX [_, _, _] ws_L_46 dL_travels_472 (c_arriving (mw_l X) tv13 1 (by decide) (by decide) 0 (by decide) 9 (by decide) 5 (by decide) (by decide +kernel) mw_L0) (mw_Yl (by decide)) mw_YW (by decide) rfl (by decide) (Nat.le_of_ble_eq_true rfl) (Nat.le_of_ble_eq_true rfl) (Nat.le_of_ble_eq_true rfl) ?_
  refine mw_le (n' := 1559) (k' := 9951) (Nat.le_of_ble_eq_true rfl) (Nat.le_of_ble_eq_true rfl) ?_
  refine mw_top (x := (nI 4)) (by decide +kernel) ?_
  refine mw_ic hX (nI 4) dL_travels_475 rfl ?_
  refine mw_icmp_ne hX (tgt := 587) dL_travels_476 (by decide) (fun h => absurd h (by decide)) (fun _ => ?_)
  refine mw_aload_n hX dL_travels_479 rfl rfl ?_
  refine mw_ic hX (nI 1) dL_travels_480 rfl ?_
  refine mw_ic hX (nI 0) dL_travels_481 rfl ?_
  refine mw_cV hX [_, _] ws_L_43 dL_travels_482 (c_travelling (mw_l X) 1 (by decide) (by decide) 0 (by decide) tv13 mw_L0) (mw_Yl (by decide)) mw_YW (by decide) rfl (by decide) (Nat.le_of_ble_eq_true rfl) (Nat.le_of_ble_eq_true rfl) (Nat.le_of_ble_eq_true rfl) ?_
  refine mw_le (n' := 1561) (k' := 9963) (Nat.le_of_ble_eq_true rfl) (Nat.le_of_ble_eq_true rfl) ?_
  refine mw_top (x := (nI 4)) (by decide +kernel) ?_
  refine mw_ic hX (nI 4) dL_travels_485 rfl ?_
  refine mw_icmp_ne hX (tgt := 587) dL_travels_486 (by decide) (fun h => absurd h (by decide)) (fun _ => ?_)
  refine mw_aload_n hX dL_travels_489 rfl rfl ?_
  refine mw_ic hX (nI 1) dL_travels_490 rfl ?_
  refine mw_bp hX (nI 6) dL_travels_491 rfl ?_
  refine mw_bp hX (nI 6) dL_travels_493 rfl ?_
  refine mw_ic hX (nI 3) dL_travels_495 rfl ?_
  refine mw_bp hX (nI 75) dL_travels_496 rfl ?_
  refine mw_cS hX [_, _, _, _, _, _] ws_L_100 dL_travels_498 (l_pool (mw_l X) 1 (by decide) (nI 6) (nI 6) (nI 3) (nI 75) tv13 mw_L0 (by decide +kernel)) rfl (by decide) (Nat.le_of_ble_eq_true rfl) (Nat.le_of_ble_eq_true rfl) (Nat.le_of_ble_eq_true rfl) ?_
  refine mw_le (n' := 1568) (k' := 10005) (Nat.le_of_ble_eq_true rfl) (Nat.le_of_ble_eq_true rfl) ?_
  refine mw_if_eq hX (tgt := 587) dL_travels_501 (by decide) (fun h => absurd h (by decide)) (fun _ => ?_)
  refine mw_aload_n hX dL_travels_504 rfl rfl ?_
  refine mw_ic hX (nI 2) dL_travels_505 rfl ?_
  refine mw_ic hX (nI 0) dL_travels_506 rfl ?_
  refine mw_cV hX [_, _] ws_L_37 dL_travels_507 (c_account (mw_l X) 2 (by decide) 0 (by decide) tv13 mw_L0) (mw_Yl (by decide)) mw_YW (by decide) rfl (by decide) (Nat.le_of_ble_eq_true rfl) (Nat.le_of_ble_eq_true rfl) (Nat.le_of_ble_eq_true rfl) ?_
  refine mw_le (n' := 1570) (k' := 10017) (Nat.le_of_ble_eq_true rfl) (Nat.le_of_ble_eq_true rfl) ?_
  refine mw_top (x := (nI 3)) (by decide +kernel) ?_
  refine mw_ic hX (nI 3) dL_travels_510 rfl ?_
  refine mw_icmp_ne hX (tgt := 587) dL_travels_511 (by decide) (fun h => absurd h (by decide)) (fun _ => ?_)
  refine mw_aload_n hX dL_travels_514 rfl rfl ?_
  refine mw_bp hX (nI 24) dL_travels_515 rfl ?_
  refine mw_cV hX [_] ws_L_30 dL_travels_517 (c_run (mw_l X) 24 (by decide) (by decide) 5 (by decide) (fun i => if i = 0 then 5 else if i = 1 then 1 else 1) tv13 (by decide +kernel) (by decide +kernel) mw_L0) (mw_Yl (by decide)) mw_YW (by decide) rfl (by decide) (Nat.le_of_ble_eq_true rfl) (Nat.le_of_ble_eq_true rfl) (Nat.le_of_ble_eq_true rfl) ?_
  refine mw_mem tv14_s ?_
  refine mw_le (n' := 1571) (k' := 10023) (Nat.le_of_ble_eq_true rfl) (Nat.le_of_ble_eq_true rfl) ?_
  refine mw_top (x := (nI 29)) (hours_h (by decide +kernel) 24) ?_
  refine mw_bp hX (nI 29) dL_travels_520 rfl ?_
  refine mw_icmp_ne hX (tgt := 587) dL_travels_522 (by decide) (fun h => absurd h (by decide)) (fun _ => ?_)
  refine mw_aload_n hX dL_travels_525 rfl rfl ?_
  refine mw_cV hX [] ws_L_84 dL_travels_526 (c_hour (mw_l X) tv14 mw_L0) (mw_Yl (by decide)) mw_YW (by decide) rfl (by decide) (Nat.le_of_ble_eq_true rfl) (Nat.le_of_ble_eq_true rfl) (Nat.le_of_ble_eq_true rfl) ?_
  refine mw_top (x := (nI 29)) (by decide +kernel) ?_
  refine mw_bp hX (nI 29) dL_travels_529 rfl ?_
  refine mw_icmp_ne hX (tgt := 587) dL_travels_531 (by decide) (fun h => absurd h (by decide)) (fun _ => ?_)
  refine mw_aload_n hX dL_travels_534 rfl rfl ?_
  refine mw_ic hX (nI 0) dL_travels_535 rfl ?_
  refine mw_cV hX [_] ws_L_55 dL_travels_536 (c_balance (mw_l X) 0 (by decide) tv14 mw_L0) (mw_Yl (by decide)) mw_YW (by decide) rfl (by decide) (Nat.le_of_ble_eq_true rfl) (Nat.le_of_ble_eq_true rfl) (Nat.le_of_ble_eq_true rfl) ?_
  refine mw_le (n' := 1572) (k' := 10029) (Nat.le_of_ble_eq_true rfl) (Nat.le_of_ble_eq_true rfl) ?_
  refine mw_top (x := (nI 155)) (by decide +kernel) ?_
  refine mw_aload_n hX dL_travels_539 rfl rfl ?_
  refine mw_ic hX (nI 0) dL_travels_540 rfl ?_
  refine mw_ic hX (nI 0) dL_travels_541 rfl ?_
  refine mw_cV hX [_, _] ws_L_37 dL_travels_542 (c_account (mw_l X) 0 (by decide) 0 (by decide) tv14 mw_L0) (mw_Yl (by decide)) mw_YW (by decide) rfl (by decide) (Nat.le_of_ble_eq_true rfl) (Nat.le_of_ble_eq_true rfl) (Nat.le_of_ble_eq_true rfl) ?_
  refine mw_le (n' := 1574) (k' := 10041) (Nat.le_of_ble_eq_true rfl) (Nat.le_of_ble_eq_true rfl) ?_
  refine mw_top (x := (nI 43)) (by decide +kernel) ?_
  refine mw_aload_n hX dL_travels_545 rfl rfl ?_
  refine mw_ic hX (nI 1) dL_travels_546 rfl ?_
  refine mw_ic hX (nI 0) dL_travels_547 rfl ?_
  refine mw_cV hX [_, _] ws_L_37 dL_travels_548 (c_account (mw_l X) 1 (by decide) 0 (by decide) tv14 mw_L0) (mw_Yl (by decide)) mw_YW (by decide) rfl (by decide) (Nat.le_of_ble_eq_true rfl) (Nat.le_of_ble_eq_true rfl) (Nat.le_of_ble_eq_true rfl) ?_
  refine mw_le (n' := 1576) (k' := 10053) (Nat.le_of_ble_eq_true rfl) (Nat.le_of_ble_eq_true rfl) ?_
  refine mw_top (x := (nI 32)) (by decide +kernel) ?_
  refine mw_iadd hX dL_travels_551 ?_
  refine mw_top (x := (nI 75)) (by decide) ?_
  refine mw_aload_n hX dL_travels_552 rfl rfl ?_
  refine mw_ic hX (nI 2) dL_travels_553 rfl ?_
  refine mw_ic hX (nI 0) dL_travels_554 rfl ?_
  refine mw_cV hX [_, _] ws_L_37 dL_travels_555 (c_account (mw_l X) 2 (by decide) 0 (by decide) tv14 mw_L0) (mw_Yl (by decide)) mw_YW (by decide) rfl (by decide) (Nat.le_of_ble_eq_true rfl) (Nat.le_of_ble_eq_true rfl) (Nat.le_of_ble_eq_true rfl) ?_
  refine mw_le (n' := 1578) (k' := 10065) (Nat.le_of_ble_eq_true rfl) (Nat.le_of_ble_eq_true rfl) ?_
  refine mw_top (x := (nI 60)) (by decide +kernel) ?_
  refine mw_iadd hX dL_travels_558 ?_
  refine mw_top (x := (nI 135)) (by decide) ?_
  refine mw_aload_n hX dL_travels_559 rfl rfl ?_
  refine mw_ic hX (nI 1) dL_travels_560 rfl ?_
  refine mw_ic hX (nI 0) dL_travels_561 rfl ?_
  refine mw_cV hX [_, _] ws_L_43 dL_travels_562 (c_travelling (mw_l X) 1 (by decide) (by decide) 0 (by decide) tv14 mw_L0) (mw_Yl (by decide)) mw_YW (by decide) rfl (by decide) (Nat.le_of_ble_eq_true rfl) (Nat.le_of_ble_eq_true rfl) (Nat.le_of_ble_eq_true rfl) ?_
  refine mw_le (n' := 1580) (k' := 10077) (Nat.le_of_ble_eq_true rfl) (Nat.le_of_ble_eq_true rfl) ?_
  refine mw_top (x := (nI 20)) (by decide +kernel) ?_
  refine mw_iadd hX dL_travels_565 ?_
  refine mw_top (x := (nI 155)) (by decide) ?_
  refine mw_aload_n hX dL_travels_566 rfl rfl ?_
  refine mw_ic hX (nI 2) dL_travels_567 rfl ?_
  refine mw_ic hX (nI 0) dL_travels_568 rfl ?_
  refine mw_cV hX [_, _] ws_L_43 dL_travels_569 (c_travelling (mw_l X) 2 (by decide) (by decide) 0 (by decide) tv14 mw_L0) (mw_Yl (by decide)) mw_YW (by decide) rfl (by decide) (Nat.le_of_ble_eq_true rfl) (Nat.le_of_ble_eq_true rfl) (Nat.le_of_ble_eq_true rfl) ?_
  refine mw_le (n' := 1582) (k' := 10089) (Nat.le_of_ble_eq_true rfl) (Nat.le_of_ble_eq_true rfl) ?_
  refine mw_top (x := (nI 0)) (by decide +kernel) ?_
  refine mw_iadd hX dL_travels_572 ?_
  refine mw_top (x := (nI 155)) (by decide) ?_
  refine mw_icmp_ne hX (tgt := 587) dL_travels_573 (by decide) (fun h => absurd h (by decide)) (fun _ => ?_)
  refine mw_aload_n hX dL_travels_576 rfl rfl ?_
  refine mw_cS hX [_] ws_L_104 dL_travels_577 (l_refuses (mw_l X) tv14 mw_L0) rfl (by decide) (Nat.le_of_ble_eq_true rfl) (Nat.le_of_ble_eq_true rfl) (Nat.le_of_ble_eq_true rfl) ?_
  refine mw_le (n' := 2282) (k' := 14389) (Nat.le_of_ble_eq_true rfl) (Nat.le_of_ble_eq_true rfl) ?_
  refine mw_if_eq hX (tgt := 587) dL_travels_580 (by decide) (fun h => absurd h (by decide)) (fun _ => ?_)
  refine mw_ic hX (nI 1) dL_travels_583 rfl ?_
  refine mw_goto hX (tgt := 588) dL_travels_584 (by decide) ?_
  refine mw_drop 0 ?_
  dsimp only [List.set]
  refine mw_clear hE rfl (y' := mw_yl []) (I' := mw_I0) (L' := mw_L0) rfl (oL_none oL_nil) (oS_cons trivial oS_nil) ?_
  exact mw_zreturn hX hE dL_travels_588 rfl (Or.inr rfl) (Nat.le_of_ble_eq_true rfl) (Nat.le_of_ble_eq_true rfl)
