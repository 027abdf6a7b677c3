/-! bests (by program: wip/p26/gen63.py) -/
set_option maxRecDepth 20000 in
theorem l_bests (l : Launch) : mw_CT l yL_bests (.code yL_bests cL_bests 2 (some .boolean)) 15 1526 9753 [] (mw_yl [], mw_I0, mw_L0) (.inl (some (.int (nI 1)), mw_yl [], mw_I0, mw_L0)) := by
  refine mw_enter RL rfl (by decide +kernel) (mw_cat rfl) (Nat.le_of_ble_eq_true rfl) (fun X hX hl hE hT hnm => ?_)
  subst hl
  have hA : ([] : List mw_B).length = 0 := rfl
  show mw_G X 0 [none, none] [] (mw_yl ([] ++ [])) mw_I0 mw_L0 0 0
  refine gy_new hX hA (q := 1) (a := 0) (by decide) dL_bests_0 wn_L_8 (Nat.le_of_ble_eq_true rfl) (Nat.le_of_ble_eq_true rfl) rfl (oL_none (oL_none oL_nil)) oS_nil rfl (t' := [((5, 0), [none, none, none, none, none, none, none])]) rfl ?_
  refine mw_le (n' := 1) (k' := 7) (Nat.le_of_ble_eq_true rfl) (Nat.le_of_ble_eq_true rfl) ?_
  refine mw_dupR hX dL_bests_3 ?_
  refine mw_cI hX [] ws_L_99 dL_bests_4 (c_initW (mw_l X)) rfl (by decide) (Nat.le_of_ble_eq_true rfl) (Nat.le_of_ble_eq_true rfl) (Nat.le_of_ble_eq_true rfl) (oL_none (oL_none oL_nil)) (oS_cons (okr (by decide)) oS_nil) ?_
  refine mw_le (n' := 40) (k' := 637) (Nat.le_of_ble_eq_true rfl) (Nat.le_of_ble_eq_true rfl) ?_
  refine mw_relay (y' := mw_Y0) rfl gy_end ?_
  refine mw_mem st0_eq ?_
  refine mw_astore_n hX dL_bests_7 rfl (Nat.le_of_ble_eq_true rfl) ?_
  dsimp only [List.set]
  refine mw_aload_n hX dL_bests_8 rfl rfl ?_
  refine mw_ic hX (nI 0) dL_bests_9 rfl ?_
  refine mw_ic hX (nI 4) dL_bests_10 rfl ?_
  refine mw_ic hX (nI 0) dL_bests_11 rfl ?_
  refine mw_cV hX [_, _, _] ws_L_15 dL_bests_12 (c_setInflow (mw_l X) 0 (by decide) (nI 4) (nI 0) (by unfold okR; decide) (by unfold okR; decide) st0 mw_L0) (mw_Yl (by decide)) mw_YW (by decide) rfl (by decide) (Nat.le_of_ble_eq_true rfl) (Nat.le_of_ble_eq_true rfl) (Nat.le_of_ble_eq_true rfl) ?_
  refine mw_mem be1_s ?_
  refine mw_le (n' := 43) (k' := 655) (Nat.le_of_ble_eq_true rfl) (Nat.le_of_ble_eq_true rfl) ?_
  refine mw_top (x := (nI 0)) (by decide +kernel) ?_
  refine mw_if_ne hX (tgt := 228) dL_bests_15 (by decide) (fun h => absurd h (by decide)) (fun _ => ?_)
  refine mw_aload_n hX dL_bests_18 rfl rfl ?_
  refine mw_ic hX (nI 1) dL_bests_19 rfl ?_
  refine mw_cV hX [_] ws_L_73 dL_bests_20 (c_bestEnergy (mw_l X) 0 (by decide) 0 (by decide) be1 (by decide +kernel) mw_L0) (mw_Yl (by decide)) mw_YW (by decide) rfl (by decide) (Nat.le_of_ble_eq_true rfl) (Nat.le_of_ble_eq_true rfl) (Nat.le_of_ble_eq_true rfl) ?_
  refine mw_mem be2_s ?_
  refine mw_le (n' := 44) (k' := 661) (Nat.le_of_ble_eq_true rfl) (Nat.le_of_ble_eq_true rfl) ?_
  refine mw_top (x := (nI 40)) bev0 ?_
  refine mw_bp hX (nI 40) dL_bests_23 rfl ?_
  refine mw_icmp_ne hX (tgt := 228) dL_bests_25 (by decide) (fun h => absurd h (by decide)) (fun _ => ?_)
  refine mw_aload_n hX dL_bests_28 rfl rfl ?_
  refine mw_ic hX (nI 1) dL_bests_29 rfl ?_
  refine mw_cV hX [_] ws_L_79 dL_bests_30 (c_bestRelease (mw_l X) 0 (by decide) 0 (by decide) be2 (by decide +kernel) mw_L0) (mw_Yl (by decide)) mw_YW (by decide) rfl (by decide) (Nat.le_of_ble_eq_true rfl) (Nat.le_of_ble_eq_true rfl) (Nat.le_of_ble_eq_true rfl) ?_
  refine mw_mem be3_s ?_
  refine mw_le (n' := 45) (k' := 667) (Nat.le_of_ble_eq_true rfl) (Nat.le_of_ble_eq_true rfl) ?_
  refine mw_top (x := (nI 4)) bev1 ?_
  refine mw_ic hX (nI 4) dL_bests_33 rfl ?_
  refine mw_icmp_ne hX (tgt := 228) dL_bests_34 (by decide) (fun h => absurd h (by decide)) (fun _ => ?_)
  refine mw_aload_n hX dL_bests_37 rfl rfl ?_
  refine mw_ic hX (nI 2) dL_bests_38 rfl ?_
  refine mw_cV hX [_] ws_L_73 dL_bests_39 (c_bestEnergy (mw_l X) 1 (by decide) 0 (by decide) be3 (by decide +kernel) mw_L0) (mw_Yl (by decide)) mw_YW (by decide) rfl (by decide) (Nat.le_of_ble_eq_true rfl) (Nat.le_of_ble_eq_true rfl) (Nat.le_of_ble_eq_true rfl) ?_
  refine mw_mem be4_s ?_
  refine mw_le (n' := 46) (k' := 673) (Nat.le_of_ble_eq_true rfl) (Nat.le_of_ble_eq_true rfl) ?_
  refine mw_top (x := (nI 88)) bev2 ?_
  refine mw_bp hX (nI 88) dL_bests_42 rfl ?_
  refine mw_icmp_ne hX (tgt := 228) dL_bests_44 (by decide) (fun h => absurd h (by decide)) (fun _ => ?_)
  refine mw_aload_n hX dL_bests_47 rfl rfl ?_
  refine mw_ic hX (nI 2) dL_bests_48 rfl ?_
  refine mw_cV hX [_] ws_L_76 dL_bests_49 (c_bestEnergyByAll (mw_l X) 1 (by decide) 0 (by decide) be4 (by decide +kernel) mw_L0) (mw_Yl (by decide)) mw_YW (by decide) rfl (by decide) (Nat.le_of_ble_eq_true rfl) (Nat.le_of_ble_eq_true rfl) (Nat.le_of_ble_eq_true rfl) ?_
  refine mw_le (n' := 47) (k' := 679) (Nat.le_of_ble_eq_true rfl) (Nat.le_of_ble_eq_true rfl) ?_
  refine mw_top (x := (nI 88)) bev3 ?_
  refine mw_bp hX (nI 88) dL_bests_52 rfl ?_
  refine mw_icmp_ne hX (tgt := 228) dL_bests_54 (by decide) (fun h => absurd h (by decide)) (fun _ => ?_)
  refine mw_aload_n hX dL_bests_57 rfl rfl ?_
  refine mw_ic hX (nI 2) dL_bests_58 rfl ?_
  refine mw_cV hX [_] ws_L_79 dL_bests_59 (c_bestRelease (mw_l X) 1 (by decide) 0 (by decide) be4 (by decide +kernel) mw_L0) (mw_Yl (by decide)) mw_YW (by decide) rfl (by decide) (Nat.le_of_ble_eq_true rfl) (Nat.le_of_ble_eq_true rfl) (Nat.le_of_ble_eq_true rfl) ?_
  refine mw_mem be5_s ?_
  refine mw_le (n' := 48) (k' := 685) (Nat.le_of_ble_eq_true rfl) (Nat.le_of_ble_eq_true rfl) ?_
  refine mw_top (x := (nI 0)) bev4 ?_
  refine mw_if_ne hX (tgt := 228) dL_bests_62 (by decide) (fun h => absurd h (by decide)) (fun _ => ?_)
  refine mw_aload_n hX dL_bests_65 rfl rfl ?_
  refine mw_ic hX (nI 3) dL_bests_66 rfl ?_
  refine mw_cV hX [_] ws_L_73 dL_bests_67 (c_bestEnergy (mw_l X) 2 (by decide) 0 (by decide) be5 (by decide +kernel) mw_L0) (mw_Yl (by decide)) mw_YW (by decide) rfl (by decide) (Nat.le_of_ble_eq_true rfl) (Nat.le_of_ble_eq_true rfl) (Nat.le_of_ble_eq_true rfl) ?_
  refine mw_mem be6_s ?_
  refine mw_le (n' := 49) (k' := 691) (Nat.le_of_ble_eq_true rfl) (Nat.le_of_ble_eq_true rfl) ?_
  refine mw_top (x := (nI 144)) bev5 ?_
  refine mw_sp hX (nI 144) dL_bests_70 rfl ?_
  refine mw_icmp_ne hX (tgt := 228) dL_bests_73 (by decide) (fun h => absurd h (by decide)) (fun _ => ?_)
  refine mw_aload_n hX dL_bests_76 rfl rfl ?_
  refine mw_ic hX (nI 3) dL_bests_77 rfl ?_
  refine mw_cV hX [_] ws_L_79 dL_bests_78 (c_bestRelease (mw_l X) 2 (by decide) 0 (by decide) be6 (by decide +kernel) mw_L0) (mw_Yl (by decide)) mw_YW (by decide) rfl (by decide) (Nat.le_of_ble_eq_true rfl) (Nat.le_of_ble_eq_true rfl) (Nat.le_of_ble_eq_true rfl) ?_
  refine mw_mem be7_s ?_
  refine mw_le (n' := 50) (k' := 697) (Nat.le_of_ble_eq_true rfl) (Nat.le_of_ble_eq_true rfl) ?_
  refine mw_top (x := (nI 0)) bev6 ?_
  refine mw_if_ne hX (tgt := 228) dL_bests_81 (by decide) (fun h => absurd h (by decide)) (fun _ => ?_)
  refine mw_aload_n hX dL_bests_84 rfl rfl ?_
  refine mw_ic hX (nI 0) dL_bests_85 rfl ?_
  refine mw_ic hX (nI 4) dL_bests_86 rfl ?_
  refine mw_cV hX [_, _] ws_L_19 dL_bests_87 (c_setMinimum (mw_l X) 0 (by decide) (nI 4) (by unfold okR; decide) be7 mw_L0) (mw_Yl (by decide)) mw_YW (by decide) rfl (by decide) (Nat.le_of_ble_eq_true rfl) (Nat.le_of_ble_eq_true rfl) (Nat.le_of_ble_eq_true rfl) ?_
  refine mw_mem be8_s ?_
  refine mw_le (n' := 52) (k' := 709) (Nat.le_of_ble_eq_true rfl) (Nat.le_of_ble_eq_true rfl) ?_
  refine mw_top (x := (nI 0)) (by decide +kernel) ?_
  refine mw_if_ne hX (tgt := 228) dL_bests_90 (by decide) (fun h => absurd h (by decide)) (fun _ => ?_)
  refine mw_aload_n hX dL_bests_93 rfl rfl ?_
  refine mw_ic hX (nI 3) dL_bests_94 rfl ?_
  refine mw_cV hX [_] ws_L_73 dL_bests_95 (c_bestEnergy (mw_l X) 2 (by decide) 4 (by decide) be8 (by decide +kernel) mw_L0) (mw_Yl (by decide)) mw_YW (by decide) rfl (by decide) (Nat.le_of_ble_eq_true rfl) (Nat.le_of_ble_eq_true rfl) (Nat.le_of_ble_eq_true rfl) ?_
  refine mw_mem be9_s ?_
  refine mw_le (n' := 53) (k' := 715) (Nat.le_of_ble_eq_true rfl) (Nat.le_of_ble_eq_true rfl) ?_
  refine mw_top (x := (nI 120)) bev7 ?_
  refine mw_bp hX (nI 120) dL_bests_98 rfl ?_
  refine mw_icmp_ne hX (tgt := 228) dL_bests_100 (by decide) (fun h => absurd h (by decide)) (fun _ => ?_)
  refine mw_aload_n hX dL_bests_103 rfl rfl ?_
  refine mw_ic hX (nI 3) dL_bests_104 rfl ?_
  refine mw_cV hX [_] ws_L_79 dL_bests_105 (c_bestRelease (mw_l X) 2 (by decide) 4 (by decide) be9 (by decide +kernel) mw_L0) (mw_Yl (by decide)) mw_YW (by decide) rfl (by decide) (Nat.le_of_ble_eq_true rfl) (Nat.le_of_ble_eq_true rfl) (Nat.le_of_ble_eq_true rfl) ?_
  refine mw_mem be10_s ?_
  refine mw_le (n' := 54) (k' := 721) (Nat.le_of_ble_eq_true rfl) (Nat.le_of_ble_eq_true rfl) ?_
  refine mw_top (x := (nI 4)) bev8 ?_
  refine mw_ic hX (nI 4) dL_bests_108 rfl ?_
  refine mw_icmp_ne hX (tgt := 228) dL_bests_109 (by decide) (fun h => absurd h (by decide)) (fun _ => ?_)
  refine mw_aload_n hX dL_bests_112 rfl rfl ?_
  refine mw_ic hX (nI 0) dL_bests_113 rfl ?_
  refine mw_bp hX (nI 20) dL_bests_114 rfl ?_
  refine mw_cV hX [_, _] ws_L_19 dL_bests_116 (c_setMinimum (mw_l X) 0 (by decide) (nI 20) (by unfold okR; decide) be10 mw_L0) (mw_Yl (by decide)) mw_YW (by decide) rfl (by decide) (Nat.le_of_ble_eq_true rfl) (Nat.le_of_ble_eq_true rfl) (Nat.le_of_ble_eq_true rfl) ?_
  refine mw_mem be11_s ?_
  refine mw_le (n' := 56) (k' := 733) (Nat.le_of_ble_eq_true rfl) (Nat.le_of_ble_eq_true rfl) ?_
  refine mw_top (x := (nI 4)) (by decide +kernel) ?_
  refine mw_ic hX (nI 4) dL_bests_119 rfl ?_
  refine mw_icmp_ne hX (tgt := 228) dL_bests_120 (by decide) (fun h => absurd h (by decide)) (fun _ => ?_)
  refine mw_aload_n hX dL_bests_123 rfl rfl ?_
  refine mw_ic hX (nI 3) dL_bests_124 rfl ?_
  refine mw_cV hX [_] ws_L_76 dL_bests_125 (c_bestEnergyByAll (mw_l X) 2 (by decide) 20 (by decide) be11 (by decide +kernel) mw_L0) (mw_Yl (by decide)) mw_YW (by decide) rfl (by decide) (Nat.le_of_ble_eq_true rfl) (Nat.le_of_ble_eq_true rfl) (Nat.le_of_ble_eq_true rfl) ?_
  refine mw_le (n' := 57) (k' := 739) (Nat.le_of_ble_eq_true rfl) (Nat.le_of_ble_eq_true rfl) ?_
  refine mw_top (x := (nI 144)) bev9 ?_
  refine mw_sp hX (nI 144) dL_bests_128 rfl ?_
  refine mw_icmp_ne hX (tgt := 228) dL_bests_131 (by decide) (fun h => absurd h (by decide)) (fun _ => ?_)
  refine mw_aload_n hX dL_bests_134 rfl rfl ?_
  refine mw_ic hX (nI 3) dL_bests_135 rfl ?_
  refine mw_cV hX [_] ws_L_79 dL_bests_136 (c_bestRelease (mw_l X) 2 (by decide) 20 (by decide) be11 (by decide +kernel) mw_L0) (mw_Yl (by decide)) mw_YW (by decide) rfl (by decide) (Nat.le_of_ble_eq_true rfl) (Nat.le_of_ble_eq_true rfl) (Nat.le_of_ble_eq_true rfl) ?_
  refine mw_mem be12_s ?_
  refine mw_le (n' := 58) (k' := 745) (Nat.le_of_ble_eq_true rfl) (Nat.le_of_ble_eq_true rfl) ?_
  refine mw_top (x := (nI 0)) bev10 ?_
  refine mw_if_ne hX (tgt := 228) dL_bests_139 (by decide) (fun h => absurd h (by decide)) (fun _ => ?_)
  refine mw_aload_n hX dL_bests_142 rfl rfl ?_
  refine mw_ic hX (nI 0) dL_bests_143 rfl ?_
  refine mw_ic hX (nI 5) dL_bests_144 rfl ?_
  refine mw_cV hX [_, _] ws_L_19 dL_bests_145 (c_setMinimum (mw_l X) 0 (by decide) (nI 5) (by unfold okR; decide) be12 mw_L0) (mw_Yl (by decide)) mw_YW (by decide) rfl (by decide) (Nat.le_of_ble_eq_true rfl) (Nat.le_of_ble_eq_true rfl) (Nat.le_of_ble_eq_true rfl) ?_
  refine mw_mem be13_s ?_
  refine mw_le (n' := 60) (k' := 757) (Nat.le_of_ble_eq_true rfl) (Nat.le_of_ble_eq_true rfl) ?_
  refine mw_top (x := (nI 20)) (by decide +kernel) ?_
  refine mw_bp hX (nI 20) dL_bests_148 rfl ?_
  refine mw_icmp_ne hX (tgt := 228) dL_bests_150 (by decide) (fun h => absurd h (by decide)) (fun _ => ?_)
  refine mw_aload_n hX dL_bests_153 rfl rfl ?_
  refine mw_ic hX (nI 2) dL_bests_154 rfl ?_
  refine mw_cV hX [_] ws_L_73 dL_bests_155 (c_bestEnergy (mw_l X) 1 (by decide) 5 (by decide) be13 (by decide +kernel) mw_L0) (mw_Yl (by decide)) mw_YW (by decide) rfl (by decide) (Nat.le_of_ble_eq_true rfl) (Nat.le_of_ble_eq_true rfl) (Nat.le_of_ble_eq_true rfl) ?_
  refine mw_mem be14_s ?_
  refine mw_le (n' := 61) (k' := 763) (Nat.le_of_ble_eq_true rfl) (Nat.le_of_ble_eq_true rfl) ?_
  refine mw_top (x := (nI 88)) bev11 ?_
  refine mw_bp hX (nI 88) dL_bests_158 rfl ?_
  refine mw_icmp_ne hX (tgt := 228) dL_bests_160 (by decide) (fun h => absurd h (by decide)) (fun _ => ?_)
  refine mw_aload_n hX dL_bests_163 rfl rfl ?_
  refine mw_ic hX (nI 0) dL_bests_164 rfl ?_
  refine mw_ic hX (nI 0) dL_bests_165 rfl ?_
  refine mw_cV hX [_, _] ws_L_19 dL_bests_166 (c_setMinimum (mw_l X) 0 (by decide) (nI 0) (by unfold okR; decide) be14 mw_L0) (mw_Yl (by decide)) mw_YW (by decide) rfl (by decide) (Nat.le_of_ble_eq_true rfl) (Nat.le_of_ble_eq_true rfl) (Nat.le_of_ble_eq_true rfl) ?_
  refine mw_mem be15_s ?_
  refine mw_le (n' := 63) (k' := 775) (Nat.le_of_ble_eq_true rfl) (Nat.le_of_ble_eq_true rfl) ?_
  refine mw_top (x := (nI 5)) (by decide +kernel) ?_
  refine mw_ic hX (nI 5) dL_bests_169 rfl ?_
  refine mw_icmp_ne hX (tgt := 228) dL_bests_170 (by decide) (fun h => absurd h (by decide)) (fun _ => ?_)
  refine mw_aload_n hX dL_bests_173 rfl rfl ?_
  refine mw_ic hX (nI 2) dL_bests_174 rfl ?_
  refine mw_cV hX [_] ws_L_73 dL_bests_175 (c_bestEnergy (mw_l X) 1 (by decide) 0 (by decide) be15 (by decide +kernel) mw_L0) (mw_Yl (by decide)) mw_YW (by decide) rfl (by decide) (Nat.le_of_ble_eq_true rfl) (Nat.le_of_ble_eq_true rfl) (Nat.le_of_ble_eq_true rfl) ?_
  refine mw_mem be16_s ?_
  refine mw_le (n' := 64) (k' := 781) (Nat.le_of_ble_eq_true rfl) (Nat.le_of_ble_eq_true rfl) ?_
  refine mw_top (x := (nI 88)) bev12 ?_
  refine mw_bp hX (nI 88) dL_bests_178 rfl ?_
  refine mw_icmp_ne hX (tgt := 228) dL_bests_180 (by decide) (fun h => absurd h (by decide)) (fun _ => ?_)
  refine mw_aload_n hX dL_bests_183 rfl rfl ?_
  refine mw_ic hX (nI 0) dL_bests_184 rfl ?_
  refine mw_ic hX (nI 3) dL_bests_185 rfl ?_
  refine mw_bp hX (nI 10) dL_bests_186 rfl ?_
  refine mw_ic hX (nI 0) dL_bests_188 rfl ?_
  refine mw_cSH hX [_, _, _, _, _] ws_L_89 dL_bests_189 (w_pond (mw_l X) (nI 0) (nI 3) (nI 10) (nI 0) _ _ _ (by decide) (by decide) (by decide) (c_setPond (mw_l X) 0 (by decide) (nI 3) (nI 10) (nI 0) (by unfold okR; decide) (by unfold okR; decide) (by unfold okR; decide) be16 mw_L0)) rfl (by decide) (Nat.le_of_ble_eq_true rfl) (Nat.le_of_ble_eq_true rfl) (Nat.le_of_ble_eq_true rfl) ?_
  refine mw_mem be17_s ?_
  refine mw_le (n' := 68) (k' := 805) (Nat.le_of_ble_eq_true rfl) (Nat.le_of_ble_eq_true rfl) ?_
  refine mw_if_ne hX (tgt := 228) dL_bests_192 (by decide) (fun h => absurd h (by decide)) (fun _ => ?_)
  refine mw_aload_n hX dL_bests_195 rfl rfl ?_
  refine mw_ic hX (nI 2) dL_bests_196 rfl ?_
  refine mw_cV hX [_] ws_L_73 dL_bests_197 (c_bestEnergy (mw_l X) 1 (by decide) 0 (by decide) be17 (by decide +kernel) mw_L0) (mw_Yl (by decide)) mw_YW (by decide) rfl (by decide) (Nat.le_of_ble_eq_true rfl) (Nat.le_of_ble_eq_true rfl) (Nat.le_of_ble_eq_true rfl) ?_
  refine mw_mem be18_s ?_
  refine mw_le (n' := 69) (k' := 811) (Nat.le_of_ble_eq_true rfl) (Nat.le_of_ble_eq_true rfl) ?_
  refine mw_top (x := (nI 80)) bev13 ?_
  refine mw_bp hX (nI 80) dL_bests_200 rfl ?_
  refine mw_icmp_ne hX (tgt := 228) dL_bests_202 (by decide) (fun h => absurd h (by decide)) (fun _ => ?_)
  refine mw_aload_n hX dL_bests_205 rfl rfl ?_
  refine mw_ic hX (nI 2) dL_bests_206 rfl ?_
  refine mw_cV hX [_] ws_L_79 dL_bests_207 (c_bestRelease (mw_l X) 1 (by decide) 0 (by decide) be18 (by decide +kernel) mw_L0) (mw_Yl (by decide)) mw_YW (by decide) rfl (by decide) (Nat.le_of_ble_eq_true rfl) (Nat.le_of_ble_eq_true rfl) (Nat.le_of_ble_eq_true rfl) ?_
  refine mw_mem be19_s ?_
  refine mw_le (n' := 70) (k' := 817) (Nat.le_of_ble_eq_true rfl) (Nat.le_of_ble_eq_true rfl) ?_
  refine mw_top (x := (nI 4)) bev14 ?_
  refine mw_ic hX (nI 4) dL_bests_210 rfl ?_
  refine mw_icmp_ne hX (tgt := 228) dL_bests_211 (by decide) (fun h => absurd h (by decide)) (fun _ => ?_)
  refine mw_aload_n hX dL_bests_214 rfl rfl ?_
  refine mw_cV hX [] ws_L_84 dL_bests_215 (c_hour (mw_l X) be19 mw_L0) (mw_Yl (by decide)) mw_YW (by decide) rfl (by decide) (Nat.le_of_ble_eq_true rfl) (Nat.le_of_ble_eq_true rfl) (Nat.le_of_ble_eq_true rfl) ?_
  refine mw_top (x := (nI 0)) (by decide +kernel) ?_
  refine mw_if_ne hX (tgt := 228) dL_bests_218 (by decide) (fun h => absurd h (by decide)) (fun _ => ?_)
  refine mw_aload_n hX dL_bests_221 rfl rfl ?_
  refine mw_cS hX [_] ws_L_104 dL_bests_222 (l_refuses (mw_l X) be19 mw_L0) rfl (by decide) (Nat.le_of_ble_eq_true rfl) (Nat.le_of_ble_eq_true rfl) (Nat.le_of_ble_eq_true rfl) ?_
  refine mw_le (n' := 770) (k' := 5117) (Nat.le_of_ble_eq_true rfl) (Nat.le_of_ble_eq_true rfl) ?_
  refine mw_if_ne hX (tgt := 230) dL_bests_225 (by decide) (fun _ => ?_) (fun h => absurd h (by decide))
  refine mw_aload_n hX dL_bests_230 rfl rfl ?_
  refine mw_ic hX (nI 0) dL_bests_231 rfl ?_
  refine mw_ic hX (nI 0) dL_bests_232 rfl ?_
  refine mw_ic hX (nI 4) dL_bests_233 rfl ?_
  refine mw_bp hX (nI 95) dL_bests_234 rfl ?_
  refine mw_cV hX [_, _, _, _] ws_L_26 dL_bests_236 (c_setYield (mw_l X) 0 (by decide) 0 (by decide) 4 (by decide) (by decide) (nI 95) (by unfold okR; decide) be19 mw_L0) (mw_Yl (by decide)) mw_YW (by decide) rfl (by decide) (Nat.le_of_ble_eq_true rfl) (Nat.le_of_ble_eq_true rfl) (Nat.le_of_ble_eq_true rfl) ?_
  refine mw_mem be20_s ?_
  refine mw_le (n' := 774) (k' := 5141) (Nat.le_of_ble_eq_true rfl) (Nat.le_of_ble_eq_true rfl) ?_
  refine mw_top (x := (nI 40)) (by decide +kernel) ?_
  refine mw_bp hX (nI 40) dL_bests_239 rfl ?_
  refine mw_icmp_ne hX (tgt := 356) dL_bests_241 (by decide) (fun h => absurd h (by decide)) (fun _ => ?_)
  refine mw_aload_n hX dL_bests_244 rfl rfl ?_
  refine mw_ic hX (nI 0) dL_bests_245 rfl ?_
  refine mw_ic hX (nI 1) dL_bests_246 rfl ?_
  refine mw_ic hX (nI 4) dL_bests_247 rfl ?_
  refine mw_ic hX (nI 3) dL_bests_248 rfl ?_
  refine mw_cV hX [_, _, _, _] ws_L_26 dL_bests_249 (c_setYield (mw_l X) 0 (by decide) 1 (by decide) 4 (by decide) (by decide) (nI 3) (by unfold okR; decide) be20 mw_L0) (mw_Yl (by decide)) mw_YW (by decide) rfl (by decide) (Nat.le_of_ble_eq_true rfl) (Nat.le_of_ble_eq_true rfl) (Nat.le_of_ble_eq_true rfl) ?_
  refine mw_mem be21_s ?_
  refine mw_le (n' := 778) (k' := 5165) (Nat.le_of_ble_eq_true rfl) (Nat.le_of_ble_eq_true rfl) ?_
  refine mw_top (x := (nI 40)) (by decide +kernel) ?_
  refine mw_bp hX (nI 40) dL_bests_252 rfl ?_
  refine mw_icmp_ne hX (tgt := 356) dL_bests_254 (by decide) (fun h => absurd h (by decide)) (fun _ => ?_)
  refine mw_aload_n hX dL_bests_257 rfl rfl ?_
  refine mw_ic hX (nI 0) dL_bests_258 rfl ?_
  refine mw_ic hX (nI 4) dL_bests_259 rfl ?_
  refine mw_cV hX [_, _] ws_L_70 dL_bests_260 (c_mix (mw_l X) 0 (by decide) (nI 4) (by unfold okR; decide) be21 mw_L0) (mw_Yl (by decide)) mw_YW (by decide) rfl (by decide) (Nat.le_of_ble_eq_true rfl) (Nat.le_of_ble_eq_true rfl) (Nat.le_of_ble_eq_true rfl) ?_
  refine mw_le (n' := 780) (k' := 5177) (Nat.le_of_ble_eq_true rfl) (Nat.le_of_ble_eq_true rfl) ?_
  refine mw_top (x := (nI 95)) (by decide +kernel) ?_
  refine mw_bp hX (nI 95) dL_bests_263 rfl ?_
  refine mw_icmp_ne hX (tgt := 356) dL_bests_265 (by decide) (fun h => absurd h (by decide)) (fun _ => ?_)
  refine mw_aload_n hX dL_bests_268 rfl rfl ?_
  refine mw_ic hX (nI 0) dL_bests_269 rfl ?_
  refine mw_ic hX (nI 3) dL_bests_270 rfl ?_
  refine mw_cV hX [_, _] ws_L_70 dL_bests_271 (c_mix (mw_l X) 0 (by decide) (nI 3) (by unfold okR; decide) be21 mw_L0) (mw_Yl (by decide)) mw_YW (by decide) rfl (by decide) (Nat.le_of_ble_eq_true rfl) (Nat.le_of_ble_eq_true rfl) (Nat.le_of_ble_eq_true rfl) ?_
  refine mw_le (n' := 782) (k' := 5189) (Nat.le_of_ble_eq_true rfl) (Nat.le_of_ble_eq_true rfl) ?_
  refine mw_top (x := (nI 30)) (by decide +kernel) ?_
  refine mw_bp hX (nI 30) dL_bests_274 rfl ?_
  refine mw_icmp_ne hX (tgt := 356) dL_bests_276 (by decide) (fun h => absurd h (by decide)) (fun _ => ?_)
  refine mw_aload_n hX dL_bests_279 rfl rfl ?_
  refine mw_ic hX (nI 0) dL_bests_280 rfl ?_
  refine mw_bp hX (nI 8) dL_bests_281 rfl ?_
  refine mw_cV hX [_, _] ws_L_70 dL_bests_283 (c_mix (mw_l X) 0 (by decide) (nI 8) (by unfold okR; decide) be21 mw_L0) (mw_Yl (by decide)) mw_YW (by decide) rfl (by decide) (Nat.le_of_ble_eq_true rfl) (Nat.le_of_ble_eq_true rfl) (Nat.le_of_ble_eq_true rfl) ?_
  refine mw_le (n' := 784) (k' := 5201) (Nat.le_of_ble_eq_true rfl) (Nat.le_of_ble_eq_true rfl) ?_
  refine mw_top (x := (nI 125)) (by decide +kernel) ?_
  refine mw_bp hX (nI 125) dL_bests_286 rfl ?_
  refine mw_icmp_ne hX (tgt := 356) dL_bests_288 (by decide) (fun h => absurd h (by decide)) (fun _ => ?_)
  refine mw_aload_n hX dL_bests_291 rfl rfl ?_
  refine mw_ic hX (nI 0) dL_bests_292 rfl ?_
  refine mw_bp hX (nI 16) dL_bests_293 rfl ?_
  refine mw_cV hX [_, _] ws_L_70 dL_bests_295 (c_mix (mw_l X) 0 (by decide) (nI 16) (by unfold okR; decide) be21 mw_L0) (mw_Yl (by decide)) mw_YW (by decide) rfl (by decide) (Nat.le_of_ble_eq_true rfl) (Nat.le_of_ble_eq_true rfl) (Nat.le_of_ble_eq_true rfl) ?_
  refine mw_le (n' := 786) (k' := 5213) (Nat.le_of_ble_eq_true rfl) (Nat.le_of_ble_eq_true rfl) ?_
  refine mw_top (x := (nI 175)) (by decide +kernel) ?_
  refine mw_sp hX (nI 175) dL_bests_298 rfl ?_
  refine mw_icmp_ne hX (tgt := 356) dL_bests_301 (by decide) (fun h => absurd h (by decide)) (fun _ => ?_)
  refine mw_aload_n hX dL_bests_304 rfl rfl ?_
  refine mw_ic hX (nI 0) dL_bests_305 rfl ?_
  refine mw_ic hX (nI 1) dL_bests_306 rfl ?_
  refine mw_bp hX (nI 8) dL_bests_307 rfl ?_
  refine mw_sp hX (nI 200) dL_bests_309 rfl ?_
  refine mw_cV hX [_, _, _, _] ws_L_26 dL_bests_312 (c_setYield (mw_l X) 0 (by decide) 1 (by decide) 8 (by decide) (by decide) (nI 200) (by unfold okR; decide) be21 mw_L0) (mw_Yl (by decide)) mw_YW (by decide) rfl (by decide) (Nat.le_of_ble_eq_true rfl) (Nat.le_of_ble_eq_true rfl) (Nat.le_of_ble_eq_true rfl) ?_
  refine mw_mem be22_s ?_
  refine mw_le (n' := 790) (k' := 5237) (Nat.le_of_ble_eq_true rfl) (Nat.le_of_ble_eq_true rfl) ?_
  refine mw_top (x := (nI 80)) (by decide +kernel) ?_
  refine mw_bp hX (nI 80) dL_bests_315 rfl ?_
  refine mw_icmp_ne hX (tgt := 356) dL_bests_317 (by decide) (fun h => absurd h (by decide)) (fun _ => ?_)
  refine mw_aload_n hX dL_bests_320 rfl rfl ?_
  refine mw_ic hX (nI 0) dL_bests_321 rfl ?_
  refine mw_bp hX (nI 8) dL_bests_322 rfl ?_
  refine mw_cV hX [_, _] ws_L_70 dL_bests_324 (c_mix (mw_l X) 0 (by decide) (nI 8) (by unfold okR; decide) be22 mw_L0) (mw_Yl (by decide)) mw_YW (by decide) rfl (by decide) (Nat.le_of_ble_eq_true rfl) (Nat.le_of_ble_eq_true rfl) (Nat.le_of_ble_eq_true rfl) ?_
  refine mw_le (n' := 792) (k' := 5249) (Nat.le_of_ble_eq_true rfl) (Nat.le_of_ble_eq_true rfl) ?_
  refine mw_top (x := (nI 200)) (by decide +kernel) ?_
  refine mw_sp hX (nI 200) dL_bests_327 rfl ?_
  refine mw_icmp_ne hX (tgt := 356) dL_bests_330 (by decide) (fun h => absurd h (by decide)) (fun _ => ?_)
  refine mw_aload_n hX dL_bests_333 rfl rfl ?_
  refine mw_ic hX (nI 0) dL_bests_334 rfl ?_
  refine mw_bp hX (nI 12) dL_bests_335 rfl ?_
  refine mw_cV hX [_, _] ws_L_70 dL_bests_337 (c_mix (mw_l X) 0 (by decide) (nI 12) (by unfold okR; decide) be22 mw_L0) (mw_Yl (by decide)) mw_YW (by decide) rfl (by decide) (Nat.le_of_ble_eq_true rfl) (Nat.le_of_ble_eq_true rfl) (Nat.le_of_ble_eq_true rfl) ?_
  refine mw_le (n' := 794) (k' := 5261) (Nat.le_of_ble_eq_true rfl) (Nat.le_of_ble_eq_true rfl) ?_
  refine mw_top (x := (nI 295)) (by decide +kernel) ?_
  refine mw_sp hX (nI 295) dL_bests_340 rfl ?_
  refine mw_icmp_ne hX (tgt := 356) dL_bests_343 (by decide) (fun h => absurd h (by decide)) (fun _ => ?_)
  refine mw_aload_n hX dL_bests_346 rfl rfl ?_
  refine mw_ic hX (nI 1) dL_bests_347 rfl ?_
  refine mw_cV hX [_] ws_L_73 dL_bests_348 (c_bestEnergy (mw_l X) 0 (by decide) 0 (by decide) be22 (by decide +kernel) mw_L0) (mw_Yl (by decide)) mw_YW (by decide) rfl (by decide) (Nat.le_of_ble_eq_true rfl) (Nat.le_of_ble_eq_true rfl) (Nat.le_of_ble_eq_true rfl) ?_
  refine mw_mem be23_s ?_
  refine mw_le (n' := 795) (k' := 5267) (Nat.le_of_ble_eq_true rfl) (Nat.le_of_ble_eq_true rfl) ?_
  refine mw_top (x := (nI 95)) bev15 ?_
  refine mw_bp hX (nI 95) dL_bests_351 rfl ?_
  refine mw_icmp_eq hX (tgt := 358) dL_bests_353 (by decide) (fun _ => ?_) (fun h => absurd h (by decide))
  refine mw_ic hX (nI 0) dL_bests_358 rfl ?_
  refine mw_istore_n hX dL_bests_359 rfl (Nat.le_of_ble_eq_true rfl) ?_
  dsimp only [List.set]
  refine mw_iload_n hX dL_bests_360 rfl rfl ?_
  refine mw_bp hX (nI 8) dL_bests_361 rfl ?_
  refine mw_icmp_ge hX (tgt := 390) dL_bests_363 (by decide) (fun h => absurd h (by decide)) (fun _ => ?_)
  refine mw_aload_n hX dL_bests_366 rfl rfl ?_
  refine mw_bp hX (nI 24) dL_bests_367 rfl ?_
  refine mw_cV hX [_] ws_L_30 dL_bests_369 (c_run (mw_l X) 24 (by decide) (by decide) 0 (by decide) (fun i => if i = 0 then 0 else if i = 1 then 1 else 1) be23 (by decide +kernel) (by decide +kernel) mw_L0) (mw_Yl (by decide)) mw_YW (by decide) rfl (by decide) (Nat.le_of_ble_eq_true rfl) (Nat.le_of_ble_eq_true rfl) (Nat.le_of_ble_eq_true rfl) ?_
  refine mw_mem be24_s ?_
  refine mw_le (n' := 796) (k' := 5273) (Nat.le_of_ble_eq_true rfl) (Nat.le_of_ble_eq_true rfl) ?_
  refine mw_top (x := (nI 24)) (hours_h (by decide +kernel) 24) ?_
  refine mw_bp hX (nI 24) dL_bests_372 rfl ?_
  refine mw_iload_n hX dL_bests_374 rfl rfl ?_
  refine mw_imul hX dL_bests_375 ?_
  refine mw_top (x := (nI 0)) (by decide) ?_
  refine mw_bp hX (nI 24) dL_bests_376 rfl ?_
  refine mw_iadd hX dL_bests_378 ?_
  refine mw_top (x := (nI 24)) (by decide) ?_
  refine mw_icmp_eq hX (tgt := 384) dL_bests_379 (by decide) (fun _ => ?_) (fun h => absurd h (by decide))
  refine mw_inc hX (nI 1) dL_bests_384 rfl (by decide) ?_
  dsimp only [List.set]
  refine mw_goto hX (tgt := 360) dL_bests_387 (by decide) ?_
  refine mw_iload_n hX dL_bests_360 rfl rfl ?_
  refine mw_bp hX (nI 8) dL_bests_361 rfl ?_
  refine mw_icmp_ge hX (tgt := 390) dL_bests_363 (by decide) (fun h => absurd h (by decide)) (fun _ => ?_)
  refine mw_aload_n hX dL_bests_366 rfl rfl ?_
  refine mw_bp hX (nI 24) dL_bests_367 rfl ?_
  refine mw_cV hX [_] ws_L_30 dL_bests_369 (c_run (mw_l X) 24 (by decide) (by decide) 24 (by decide) (fun i => if i = 0 then 0 else if i = 1 then 1 else 1) be24 (by decide +kernel) (by decide +kernel) mw_L0) (mw_Yl (by decide)) mw_YW (by decide) rfl (by decide) (Nat.le_of_ble_eq_true rfl) (Nat.le_of_ble_eq_true rfl) (Nat.le_of_ble_eq_true rfl) ?_
  refine mw_mem be25_s ?_
  refine mw_le (n' := 797) (k' := 5279) (Nat.le_of_ble_eq_true rfl) (Nat.le_of_ble_eq_true rfl) ?_
  refine mw_top (x := (nI 48)) (hours_h (by decide +kernel) 24) ?_
  refine mw_bp hX (nI 24) dL_bests_372 rfl ?_
  refine mw_iload_n hX dL_bests_374 rfl rfl ?_
  refine mw_imul hX dL_bests_375 ?_
  refine mw_top (x := (nI 24)) (by decide) ?_
  refine mw_bp hX (nI 24) dL_bests_376 rfl ?_
  refine mw_iadd hX dL_bests_378 ?_
  refine mw_top (x := (nI 48)) (by decide) ?_
  refine mw_icmp_eq hX (tgt := 384) dL_bests_379 (by decide) (fun _ => ?_) (fun h => absurd h (by decide))
  refine mw_inc hX (nI 2) dL_bests_384 rfl (by decide) ?_
  dsimp only [List.set]
  refine mw_goto hX (tgt := 360) dL_bests_387 (by decide) ?_
  refine mw_iload_n hX dL_bests_360 rfl rfl ?_
  refine mw_bp hX (nI 8) dL_bests_361 rfl ?_
  refine mw_icmp_ge hX (tgt := 390) dL_bests_363 (by decide) (fun h => absurd h (by decide)) (fun _ => ?_)
  refine mw_aload_n hX dL_bests_366 rfl rfl ?_
  refine mw_bp hX (nI 24) dL_bests_367 rfl ?_
  refine mw_cV hX [_] ws_L_30 dL_bests_369 (c_run (mw_l X) 24 (by decide) (by decide) 48 (by decide) (fun i => if i = 0 then 0 else if i = 1 then 1 else 1) be25 (by decide +kernel) (by decide +kernel) mw_L0) (mw_Yl (by decide)) mw_YW (by decide) rfl (by decide) (Nat.le_of_ble_eq_true rfl) (Nat.le_of_ble_eq_true rfl) (Nat.le_of_ble_eq_true rfl) ?_
  refine mw_mem be26_s ?_
  refine mw_le (n' := 798) (k' := 5285) (Nat.le_of_ble_eq_true rfl) (Nat.le_of_ble_eq_true rfl) ?_
  refine mw_top (x := (nI 72)) (hours_h (by decide +kernel) 24) ?_
  refine mw_bp hX (nI 24) dL_bests_372 rfl ?_
  refine mw_iload_n hX dL_bests_374 rfl rfl ?_
  refine mw_imul hX dL_bests_375 ?_
  refine mw_top (x := (nI 48)) (by decide) ?_
  refine mw_bp hX (nI 24) dL_bests_376 rfl ?_
  refine mw_iadd hX dL_bests_378 ?_
  refine mw_top (x := (nI 72)) (by decide) ?_
  refine mw_icmp_eq hX (tgt := 384) dL_bests_379 (by decide) (fun _ => ?_) (fun h => absurd h (by decide))
  refine mw_inc hX (nI 3) dL_bests_384 rfl (by decide) ?_
  dsimp only [List.set]
  refine mw_goto hX (tgt := 360) dL_bests_387 (by decide) ?_
  refine mw_iload_n hX dL_bests_360 rfl rfl ?_
  refine mw_bp hX (nI 8) dL_bests_361 rfl ?_
  refine mw_icmp_ge hX (tgt := 390) dL_bests_363 (by decide) (fun h => absurd h (by decide)) (fun _ => ?_)
  refine mw_aload_n hX dL_bests_366 rfl rfl ?_
  refine mw_bp hX (nI 24) dL_bests_367 rfl ?_
  refine mw_cV hX [_] ws_L_30 dL_bests_369 (c_run (mw_l X) 24 (by decide) (by decide) 72 (by decide) (fun i => if i = 0 then 0 else if i = 1 then 1 else 1) be26 (by decide +kernel) (by decide +kernel) mw_L0) (mw_Yl (by decide)) mw_YW (by decide) rfl (by decide) (Nat.le_of_ble_eq_true rfl) (Nat.le_of_ble_eq_true rfl) (Nat.le_of_ble_eq_true rfl) ?_
  refine mw_mem be27_s ?_
  refine mw_le (n' := 799) (k' := 5291) (Nat.le_of_ble_eq_true rfl) (Nat.le_of_ble_eq_true rfl) ?_
  refine mw_top (x := (nI 96)) (hours_h (by decide +kernel) 24) ?_
  refine mw_bp hX (nI 24) dL_bests_372 rfl ?_
  refine mw_iload_n hX dL_bests_374 rfl rfl ?_
  refine mw_imul hX dL_bests_375 ?_
  refine mw_top (x := (nI 72)) (by decide) ?_
  refine mw_bp hX (nI 24) dL_bests_376 rfl ?_
  refine mw_iadd hX dL_bests_378 ?_
  refine mw_top (x := (nI 96)) (by decide) ?_
  refine mw_icmp_eq hX (tgt := 384) dL_bests_379 (by decide) (fun _ => ?_) (fun h => absurd h (by decide))
  refine mw_inc hX (nI 4) dL_bests_384 rfl (by decide) ?_
  dsimp only [List.set]
  refine mw_goto hX (tgt := 360) dL_bests_387 (by decide) ?_
  refine mw_iload_n hX dL_bests_360 rfl rfl ?_
  refine mw_bp hX (nI 8) dL_bests_361 rfl ?_
  refine mw_icmp_ge hX (tgt := 390) dL_bests_363 (by decide) (fun h => absurd h (by decide)) (fun _ => ?_)
  refine mw_aload_n hX dL_bests_366 rfl rfl ?_
  refine mw_bp hX (nI 24) dL_bests_367 rfl ?_
  refine mw_cV hX [_] ws_L_30 dL_bests_369 (c_run (mw_l X) 24 (by decide) (by decide) 96 (by decide) (fun i => if i = 0 then 0 else if i = 1 then 1 else 1) be27 (by decide +kernel) (by decide +kernel) mw_L0) (mw_Yl (by decide)) mw_YW (by decide) rfl (by decide) (Nat.le_of_ble_eq_true rfl) (Nat.le_of_ble_eq_true rfl) (Nat.le_of_ble_eq_true rfl) ?_
  refine mw_mem be28_s ?_
  refine mw_le (n' := 800) (k' := 5297) (Nat.le_of_ble_eq_true rfl) (Nat.le_of_ble_eq_true rfl) ?_
  refine mw_top (x := (nI 120)) (hours_h (by decide +kernel) 24) ?_
  refine mw_bp hX (nI 24) dL_bests_372 rfl ?_
  refine mw_iload_n hX dL_bests_374 rfl rfl ?_
  refine mw_imul hX dL_bests_375 ?_
  refine mw_top (x := (nI 96)) (by decide) ?_
  refine mw_bp hX (nI 24) dL_bests_376 rfl ?_
  refine mw_iadd hX dL_bests_378 ?_
  refine mw_top (x := (nI 120)) (by decide) ?_
  refine mw_icmp_eq hX (tgt := 384) dL_bests_379 (by decide) (fun _ => ?_) (fun h => absurd h (by decide))
  refine mw_inc hX (nI 5) dL_bests_384 rfl (by decide) ?_
  dsimp only [List.set]
  refine mw_goto hX (tgt := 360) dL_bests_387 (by decide) ?_
  refine mw_iload_n hX dL_bests_360 rfl rfl ?_
  refine mw_bp hX (nI 8) dL_bests_361 rfl ?_
  refine mw_icmp_ge hX (tgt := 390) dL_bests_363 (by decide) (fun h => absurd h (by decide)) (fun _ => ?_)
  refine mw_aload_n hX dL_bests_366 rfl rfl ?_
  refine mw_bp hX (nI 24) dL_bests_367 rfl ?_
  refine mw_cV hX [_] ws_L_30 dL_bests_369 (c_run (mw_l X) 24 (by decide) (by decide) 120 (by decide) (fun i => if i = 0 then 0 else if i = 1 then 1 else 1) be28 (by decide +kernel) (by decide +kernel) mw_L0) (mw_Yl (by decide)) mw_YW (by decide) rfl (by decide) (Nat.le_of_ble_eq_true rfl) (Nat.le_of_ble_eq_true rfl) (Nat.le_of_ble_eq_true rfl) ?_
  refine mw_mem be29_s ?_
  refine mw_le (n' := 801) (k' := 5303) (Nat.le_of_ble_eq_true rfl) (Nat.le_of_ble_eq_true rfl) ?_
  refine mw_top (x := (nI 144)) (hours_h (by decide +kernel) 24) ?_
  refine mw_bp hX (nI 24) dL_bests_372 rfl ?_
  refine mw_iload_n hX dL_bests_374 rfl rfl ?_
  refine mw_imul hX dL_bests_375 ?_
  refine mw_top (x := (nI 120)) (by decide) ?_
  refine mw_bp hX (nI 24) dL_bests_376 rfl ?_
  refine mw_iadd hX dL_bests_378 ?_
  refine mw_top (x := (nI 144)) (by decide) ?_
  refine mw_icmp_eq hX (tgt := 384) dL_bests_379 (by decide) (fun _ => ?_) (fun h => absurd h (by decide))
  refine mw_inc hX (nI 6) dL_bests_384 rfl (by decide) ?_
  dsimp only [List.set]
  refine mw_goto hX (tgt := 360) dL_bests_387 (by decide) ?_
  refine mw_iload_n hX dL_bests_360 rfl rfl ?_
  refine mw_bp hX (nI 8) dL_bests_361 rfl ?_
  refine mw_icmp_ge hX (tgt := 390) dL_bests_363 (by decide) (fun h => absurd h (by decide)) (fun _ => ?_)
  refine mw_aload_n hX dL_bests_366 rfl rfl ?_
  refine mw_bp hX (nI 24) dL_bests_367 rfl ?_
  refine mw_cV hX [_] ws_L_30 dL_bests_369 (c_run (mw_l X) 24 (by decide) (by decide) 144 (by decide) (fun i => if i = 0 then 0 else if i = 1 then 1 else 1) be29 (by decide +kernel) (by decide +kernel) mw_L0) (mw_Yl (by decide)) mw_YW (by decide) rfl (by decide) (Nat.le_of_ble_eq_true rfl) (Nat.le_of_ble_eq_true rfl) (Nat.le_of_ble_eq_true rfl) ?_
  refine mw_mem be30_s ?_
  refine mw_le (n' := 802) (k' := 5309) (Nat.le_of_ble_eq_true rfl) (Nat.le_of_ble_eq_true rfl) ?_
  refine mw_top (x := (nI 168)) (hours_h (by decide +kernel) 24) ?_
  refine mw_bp hX (nI 24) dL_bests_372 rfl ?_
  refine mw_iload_n hX dL_bests_374 rfl rfl ?_
  refine mw_imul hX dL_bests_375 ?_
  refine mw_top (x := (nI 144)) (by decide) ?_
  refine mw_bp hX (nI 24) dL_bests_376 rfl ?_
  refine mw_iadd hX dL_bests_378 ?_
  refine mw_top (x := (nI 168)) (by decide) ?_
  refine mw_icmp_eq hX (tgt := 384) dL_bests_379 (by decide) (fun _ => ?_) (fun h => absurd h (by decide))
  refine mw_inc hX (nI 7) dL_bests_384 rfl (by decide) ?_
  dsimp only [List.set]
  refine mw_goto hX (tgt := 360) dL_bests_387 (by decide) ?_
  refine mw_iload_n hX dL_bests_360 rfl rfl ?_
  refine mw_bp hX (nI 8) dL_bests_361 rfl ?_
  refine mw_icmp_ge hX (tgt := 390) dL_bests_363 (by decide) (fun h => absurd h (by decide)) (fun _ => ?_)
  refine mw_aload_n hX dL_bests_366 rfl rfl ?_
  refine mw_bp hX (nI 24) dL_bests_367 rfl ?_
  refine mw_cV hX [_] ws_L_30 dL_bests_369 (c_run (mw_l X) 24 (by decide) (by decide) 168 (by decide) (fun i => if i = 0 then 0 else if i = 1 then 1 else 1) be30 (by decide +kernel) (by decide +kernel) mw_L0) (mw_Yl (by decide)) mw_YW (by decide) rfl (by decide) (Nat.le_of_ble_eq_true rfl) (Nat.le_of_ble_eq_true rfl) (Nat.le_of_ble_eq_true rfl) ?_
  refine mw_mem be31_s ?_
  refine mw_le (n' := 803) (k' := 5315) (Nat.le_of_ble_eq_true rfl) (Nat.le_of_ble_eq_true rfl) ?_
  refine mw_top (x := (nI 192)) (hours_h (by decide +kernel) 24) ?_
  refine mw_bp hX (nI 24) dL_bests_372 rfl ?_
  refine mw_iload_n hX dL_bests_374 rfl rfl ?_
  refine mw_imul hX dL_bests_375 ?_
  refine mw_top (x := (nI 168)) (by decide) ?_
  refine mw_bp hX (nI 24) dL_bests_376 rfl ?_
  refine mw_iadd hX dL_bests_378 ?_
  refine mw_top (x := (nI 192)) (by decide) ?_
  refine mw_icmp_eq hX (tgt := 384) dL_bests_379 (by decide) (fun _ => ?_) (fun h => absurd h (by decide))
  refine mw_inc hX (nI 8) dL_bests_384 rfl (by decide) ?_
  dsimp only [List.set]
  refine mw_goto hX (tgt := 360) dL_bests_387 (by decide) ?_
  refine mw_iload_n hX dL_bests_360 rfl rfl ?_
  refine mw_bp hX (nI 8) dL_bests_361 rfl ?_
  refine mw_icmp_ge hX (tgt := 390) dL_bests_363 (by decide) (fun _ => ?_) (fun h => absurd h (by decide))
  refine mw_aload_n hX dL_bests_390 rfl rfl ?_
  refine mw_ic hX (nI 4) dL_bests_391 rfl ?_
  refine mw_bp hX (nI 9) dL_bests_392 rfl ?_
  refine mw_ic hX (nI 0) dL_bests_394 rfl ?_
  refine mw_ic hX (nI 0) dL_bests_395 rfl ?_
  refine mw_ic hX (nI 0) dL_bests_396 rfl ?_
  refine mw_cSH hX [_, _, _, _, _, _] ws_L_95 dL_bests_397 (w_runS (mw_l X) (nI 9) (nI 0) (nI 0) (nI 0) _ _ _ (by decide) (by decide) (by decide) (c_runS (mw_l X) 9 (by decide) (by decide) 192 (by decide) (by decide) be31 (by decide +kernel) mw_L0)) rfl (by decide) (Nat.le_of_ble_eq_true rfl) (Nat.le_of_ble_eq_true rfl) (Nat.le_of_ble_eq_true rfl) ?_
  refine mw_le (n' := 807) (k' := 5339) (Nat.le_of_ble_eq_true rfl) (Nat.le_of_ble_eq_true rfl) ?_
  refine mw_sp hX (-8003) dL_bests_400 rfl ?_
  refine mw_icmp_ne hX (tgt := 527) dL_bests_403 (by decide) (fun h => absurd h (by decide)) (fun _ => ?_)
  refine mw_aload_n hX dL_bests_406 rfl rfl ?_
  refine mw_bp hX (nI 8) dL_bests_407 rfl ?_
  refine mw_cV hX [_] ws_L_30 dL_bests_409 (c_run (mw_l X) 8 (by decide) (by decide) 192 (by decide) (fun i => if i = 0 then 0 else if i = 1 then 1 else 1) be31 (by decide +kernel) (by decide +kernel) mw_L0) (mw_Yl (by decide)) mw_YW (by decide) rfl (by decide) (Nat.le_of_ble_eq_true rfl) (Nat.le_of_ble_eq_true rfl) (Nat.le_of_ble_eq_true rfl) ?_
  refine mw_mem be32_s ?_
  refine mw_le (n' := 808) (k' := 5345) (Nat.le_of_ble_eq_true rfl) (Nat.le_of_ble_eq_true rfl) ?_
  refine mw_top (x := (nI 200)) (hours_h (by decide +kernel) 8) ?_
  refine mw_sp hX (nI 200) dL_bests_412 rfl ?_
  refine mw_icmp_ne hX (tgt := 527) dL_bests_415 (by decide) (fun h => absurd h (by decide)) (fun _ => ?_)
  refine mw_aload_n hX dL_bests_418 rfl rfl ?_
  refine mw_ic hX (nI 4) dL_bests_419 rfl ?_
  refine mw_ic hX (nI 1) dL_bests_420 rfl ?_
  refine mw_ic hX (nI 0) dL_bests_421 rfl ?_
  refine mw_ic hX (nI 0) dL_bests_422 rfl ?_
  refine mw_ic hX (nI 0) dL_bests_423 rfl ?_
  refine mw_cSH hX [_, _, _, _, _, _] ws_L_95 dL_bests_424 (w_runS (mw_l X) (nI 1) (nI 0) (nI 0) (nI 0) _ _ _ (by decide) (by decide) (by decide) (c_runS (mw_l X) 1 (by decide) (by decide) 200 (by decide) (by decide) be32 (by decide +kernel) mw_L0)) rfl (by decide) (Nat.le_of_ble_eq_true rfl) (Nat.le_of_ble_eq_true rfl) (Nat.le_of_ble_eq_true rfl) ?_
  refine mw_le (n' := 812) (k' := 5369) (Nat.le_of_ble_eq_true rfl) (Nat.le_of_ble_eq_true rfl) ?_
  refine mw_sp hX (-8003) dL_bests_427 rfl ?_
  refine mw_icmp_ne hX (tgt := 527) dL_bests_430 (by decide) (fun h => absurd h (by decide)) (fun _ => ?_)
  refine mw_aload_n hX dL_bests_433 rfl rfl ?_
  refine mw_ic hX (nI 0) dL_bests_434 rfl ?_
  refine mw_cV hX [_] ws_L_58 dL_bests_435 (c_spilled (mw_l X) 0 (by decide) be32 mw_L0) (mw_Yl (by decide)) mw_YW (by decide) rfl (by decide) (Nat.le_of_ble_eq_true rfl) (Nat.le_of_ble_eq_true rfl) (Nat.le_of_ble_eq_true rfl) ?_
  refine mw_le (n' := 813) (k' := 5375) (Nat.le_of_ble_eq_true rfl) (Nat.le_of_ble_eq_true rfl) ?_
  refine mw_top (x := (nI 797)) (by decide +kernel) ?_
  refine mw_sp hX (nI 797) dL_bests_438 rfl ?_
  refine mw_icmp_ne hX (tgt := 527) dL_bests_441 (by decide) (fun h => absurd h (by decide)) (fun _ => ?_)
  refine mw_aload_n hX dL_bests_444 rfl rfl ?_
  refine mw_ic hX (nI 0) dL_bests_445 rfl ?_
  refine mw_cV hX [_] ws_L_40 dL_bests_446 (c_level (mw_l X) 0 (by decide) be32 mw_L0) (mw_Yl (by decide)) mw_YW (by decide) rfl (by decide) (Nat.le_of_ble_eq_true rfl) (Nat.le_of_ble_eq_true rfl) (Nat.le_of_ble_eq_true rfl) ?_
  refine mw_le (n' := 814) (k' := 5381) (Nat.le_of_ble_eq_true rfl) (Nat.le_of_ble_eq_true rfl) ?_
  refine mw_top (x := (nI 3)) (by decide +kernel) ?_
  refine mw_ic hX (nI 3) dL_bests_449 rfl ?_
  refine mw_icmp_ne hX (tgt := 527) dL_bests_450 (by decide) (fun h => absurd h (by decide)) (fun _ => ?_)
  refine mw_aload_n hX dL_bests_453 rfl rfl ?_
  refine mw_ic hX (nI 1) dL_bests_454 rfl ?_
  refine mw_cV hX [_] ws_L_49 dL_bests_455 (c_cameIn (mw_l X) 1 (by decide) be32 mw_L0) (mw_Yl (by decide)) mw_YW (by decide) rfl (by decide) (Nat.le_of_ble_eq_true rfl) (Nat.le_of_ble_eq_true rfl) (Nat.le_of_ble_eq_true rfl) ?_
  refine mw_le (n' := 815) (k' := 5387) (Nat.le_of_ble_eq_true rfl) (Nat.le_of_ble_eq_true rfl) ?_
  refine mw_top (x := (nI 800)) (by decide +kernel) ?_
  refine mw_sp hX (nI 800) dL_bests_458 rfl ?_
  refine mw_icmp_ne hX (tgt := 527) dL_bests_461 (by decide) (fun h => absurd h (by decide)) (fun _ => ?_)
  refine mw_aload_n hX dL_bests_464 rfl rfl ?_
  refine mw_ic hX (nI 0) dL_bests_465 rfl ?_
  refine mw_cV hX [_] ws_L_49 dL_bests_466 (c_cameIn (mw_l X) 0 (by decide) be32 mw_L0) (mw_Yl (by decide)) mw_YW (by decide) rfl (by decide) (Nat.le_of_ble_eq_true rfl) (Nat.le_of_ble_eq_true rfl) (Nat.le_of_ble_eq_true rfl) ?_
  refine mw_le (n' := 816) (k' := 5393) (Nat.le_of_ble_eq_true rfl) (Nat.le_of_ble_eq_true rfl) ?_
  refine mw_top (x := (nI 0)) (by decide +kernel) ?_
  refine mw_if_ne hX (tgt := 527) dL_bests_469 (by decide) (fun h => absurd h (by decide)) (fun _ => ?_)
  refine mw_aload_n hX dL_bests_472 rfl rfl ?_
  refine mw_ic hX (nI 1) dL_bests_473 rfl ?_
  refine mw_cV hX [_] ws_L_55 dL_bests_474 (c_balance (mw_l X) 1 (by decide) be32 mw_L0) (mw_Yl (by decide)) mw_YW (by decide) rfl (by decide) (Nat.le_of_ble_eq_true rfl) (Nat.le_of_ble_eq_true rfl) (Nat.le_of_ble_eq_true rfl) ?_
  refine mw_le (n' := 817) (k' := 5399) (Nat.le_of_ble_eq_true rfl) (Nat.le_of_ble_eq_true rfl) ?_
  refine mw_top (x := (nI 207)) (by decide +kernel) ?_
  refine mw_aload_n hX dL_bests_477 rfl rfl ?_
  refine mw_ic hX (nI 0) dL_bests_478 rfl ?_
  refine mw_ic hX (nI 1) dL_bests_479 rfl ?_
  refine mw_cV hX [_, _] ws_L_37 dL_bests_480 (c_account (mw_l X) 0 (by decide) 1 (by decide) be32 mw_L0) (mw_Yl (by decide)) mw_YW (by decide) rfl (by decide) (Nat.le_of_ble_eq_true rfl) (Nat.le_of_ble_eq_true rfl) (Nat.le_of_ble_eq_true rfl) ?_
  refine mw_le (n' := 819) (k' := 5411) (Nat.le_of_ble_eq_true rfl) (Nat.le_of_ble_eq_true rfl) ?_
  refine mw_top (x := (nI 3)) (by decide +kernel) ?_
  refine mw_aload_n hX dL_bests_483 rfl rfl ?_
  refine mw_ic hX (nI 1) dL_bests_484 rfl ?_
  refine mw_ic hX (nI 1) dL_bests_485 rfl ?_
  refine mw_cV hX [_, _] ws_L_37 dL_bests_486 (c_account (mw_l X) 1 (by decide) 1 (by decide) be32 mw_L0) (mw_Yl (by decide)) mw_YW (by decide) rfl (by decide) (Nat.le_of_ble_eq_true rfl) (Nat.le_of_ble_eq_true rfl) (Nat.le_of_ble_eq_true rfl) ?_
  refine mw_le (n' := 821) (k' := 5423) (Nat.le_of_ble_eq_true rfl) (Nat.le_of_ble_eq_true rfl) ?_
  refine mw_top (x := (nI 100)) (by decide +kernel) ?_
  refine mw_iadd hX dL_bests_489 ?_
  refine mw_top (x := (nI 103)) (by decide) ?_
  refine mw_aload_n hX dL_bests_490 rfl rfl ?_
  refine mw_ic hX (nI 2) dL_bests_491 rfl ?_
  refine mw_ic hX (nI 1) dL_bests_492 rfl ?_
  refine mw_cV hX [_, _] ws_L_37 dL_bests_493 (c_account (mw_l X) 2 (by decide) 1 (by decide) be32 mw_L0) (mw_Yl (by decide)) mw_YW (by decide) rfl (by decide) (Nat.le_of_ble_eq_true rfl) (Nat.le_of_ble_eq_true rfl) (Nat.le_of_ble_eq_true rfl) ?_
  refine mw_le (n' := 823) (k' := 5435) (Nat.le_of_ble_eq_true rfl) (Nat.le_of_ble_eq_true rfl) ?_
  refine mw_top (x := (nI 100)) (by decide +kernel) ?_
  refine mw_iadd hX dL_bests_496 ?_
  refine mw_top (x := (nI 203)) (by decide) ?_
  refine mw_aload_n hX dL_bests_497 rfl rfl ?_
  refine mw_ic hX (nI 2) dL_bests_498 rfl ?_
  refine mw_ic hX (nI 1) dL_bests_499 rfl ?_
  refine mw_cV hX [_, _] ws_L_43 dL_bests_500 (c_travelling (mw_l X) 2 (by decide) (by decide) 1 (by decide) be32 mw_L0) (mw_Yl (by decide)) mw_YW (by decide) rfl (by decide) (Nat.le_of_ble_eq_true rfl) (Nat.le_of_ble_eq_true rfl) (Nat.le_of_ble_eq_true rfl) ?_
  refine mw_le (n' := 825) (k' := 5447) (Nat.le_of_ble_eq_true rfl) (Nat.le_of_ble_eq_true rfl) ?_
  refine mw_top (x := (nI 4)) (by decide +kernel) ?_
  refine mw_iadd hX dL_bests_503 ?_
  refine mw_top (x := (nI 207)) (by decide) ?_
  refine mw_icmp_ne hX (tgt := 527) dL_bests_504 (by decide) (fun h => absurd h (by decide)) (fun _ => ?_)
  refine mw_aload_n hX dL_bests_507 rfl rfl ?_
  refine mw_bp hX (nI 6) dL_bests_508 rfl ?_
  refine mw_cV hX [_] ws_L_73 dL_bests_510 (c_bestEnergy (mw_l X) 5 (by decide) 0 (by decide) be32 (by decide +kernel) mw_L0) (mw_Yl (by decide)) mw_YW (by decide) rfl (by decide) (Nat.le_of_ble_eq_true rfl) (Nat.le_of_ble_eq_true rfl) (Nat.le_of_ble_eq_true rfl) ?_
  refine mw_mem be33_s ?_
  refine mw_le (n' := 826) (k' := 5453) (Nat.le_of_ble_eq_true rfl) (Nat.le_of_ble_eq_true rfl) ?_
  refine mw_top (x := (nI 624)) bev16 ?_
  refine mw_if_le hX (tgt := 527) dL_bests_513 (by decide) (fun h => absurd h (by decide)) (fun _ => ?_)
  refine mw_aload_n hX dL_bests_516 rfl rfl ?_
  refine mw_cS hX [_] ws_L_104 dL_bests_517 (l_refuses (mw_l X) be33 mw_L0) rfl (by decide) (Nat.le_of_ble_eq_true rfl) (Nat.le_of_ble_eq_true rfl) (Nat.le_of_ble_eq_true rfl) ?_
  refine mw_le (n' := 1526) (k' := 9753) (Nat.le_of_ble_eq_true rfl) (Nat.le_of_ble_eq_true rfl) ?_
  refine mw_if_eq hX (tgt := 527) dL_bests_520 (by decide) (fun h => absurd h (by decide)) (fun _ => ?_)
  refine mw_ic hX (nI 1) dL_bests_523 rfl ?_
  refine mw_goto hX (tgt := 528) dL_bests_524 (by decide) ?_
  refine mw_drop 0 ?_
  refine mw_drop 1 ?_
  dsimp only [List.set]
  refine mw_clear hE rfl (y' := mw_yl []) (I' := mw_I0) (L' := mw_L0) rfl (oL_none (oL_none oL_nil)) (oS_cons trivial oS_nil) ?_
  exact mw_zreturn hX hE dL_bests_528 rfl (Or.inr rfl) (Nat.le_of_ble_eq_true rfl) (Nat.le_of_ble_eq_true rfl)
