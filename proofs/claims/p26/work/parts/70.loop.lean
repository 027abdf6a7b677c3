/-! the law's own loop (by program: wip/p26/gen70.py) -/
theorem lp_checks2 {X : mw_X} (hX : mw_Ok RL cL_law 16 644725 7167449 X) {k k2 x n q : Nat} {I : mw_I} (hI : lpI k2 I) (hn : n + 9 ≤ 644725) (hq : q + 54 ≤ 7167449) (kk : mw_G X 190 [some (.ref 1000000), some (.ref 0), some (.int (nI k)), some (.int (nI x)), some (.int (nI 3))] [] mw_Y0 I mw_L0 (n + 9) (q + 54)) : mw_G X 142 [some (.ref 1000000), some (.ref 0), some (.int (nI k)), some (.int (nI x)), none] [] mw_Y0 I mw_L0 n q := by
  obtain ⟨w0, l0, e0⟩ := lp_w (i := 0) (by decide) hI
  obtain ⟨w1, l1, e1⟩ := lp_w (i := 1) (by decide) hI
  obtain ⟨w2, l2, e2⟩ := lp_w (i := 2) (by decide) hI
  have f0 : I (7 + 11 * 0) 14 ≤ nI 16 := hI.2.1 0 (by decide)
  have f1 : I (7 + 11 * 1) 14 ≤ nI 16 := hI.2.1 1 (by decide)
  have f2 : I (7 + 11 * 2) 14 ≤ nI 16 := hI.2.1 2 (by decide)
  refine mw_ic hX (nI 0) dL_law_142 rfl ?_
  refine mw_istore hX dL_law_143 (Nat.le_of_ble_eq_true rfl) ?_
  dsimp only [List.set]
  refine mw_iload hX dL_law_145 rfl ?_
  refine mw_ic hX (nI 3) dL_law_147 rfl ?_
  refine mw_icmp_ge hX (tgt := 190) dL_law_148 (by decide) (fun h => absurd h (by decide)) (fun _ => ?_)
  refine mw_aload_n hX dL_law_151 rfl rfl ?_
  refine mw_iload hX dL_law_152 rfl ?_
  refine mw_cV hX [_] ws_L_40 dL_law_154 (c_level (mw_l X) 0 (by decide) I mw_L0) (mw_Yl (by decide)) mw_YW (by decide) rfl (by decide) (by omega) (by omega) (Nat.le_of_ble_eq_true rfl) ?_
  refine mw_top (x := nI w0) e0 ?_
  refine mw_if_lt hX (tgt := 182) dL_law_157 (by decide) (fun h => absurd h (nI_pos (by omega))) (fun _ => ?_)
  refine mw_aload_n hX dL_law_160 rfl rfl ?_
  refine mw_iload hX dL_law_161 rfl ?_
  refine mw_cV hX [_] ws_L_40 dL_law_163 (c_level (mw_l X) 0 (by decide) I mw_L0) (mw_Yl (by decide)) mw_YW (by decide) rfl (by decide) (by omega) (by omega) (Nat.le_of_ble_eq_true rfl) ?_
  refine mw_top (x := nI w0) e0 ?_
  refine mw_bp hX (nI 100) dL_law_166 rfl ?_
  refine mw_icmp_gt hX (tgt := 182) dL_law_168 (by decide) (fun h => absurd h (nI_nlt (a := 100) (b := w0) (by omega) (by decide))) (fun _ => ?_)
  refine mw_aload_n hX dL_law_171 rfl rfl ?_
  refine mw_iload hX dL_law_172 rfl ?_
  refine mw_cV hX [_] ws_L_64 dL_law_174 (c_flow (mw_l X) 0 (by decide) I mw_L0) (mw_Yl (by decide)) mw_YW (by decide) rfl (by decide) (by omega) (by omega) (Nat.le_of_ble_eq_true rfl) ?_
  refine mw_bp hX (nI 16) dL_law_177 rfl ?_
  refine mw_icmp_le hX (tgt := 184) dL_law_179 (by decide) (fun _ => ?_) (fun h => absurd h (fun h2 => h2 f0))
  refine mw_inc hX (nI 1) dL_law_184 rfl (by decide) ?_
  dsimp only [List.set]
  refine mw_goto hX (tgt := 145) dL_law_187 (by decide) ?_
  refine mw_iload hX dL_law_145 rfl ?_
  refine mw_ic hX (nI 3) dL_law_147 rfl ?_
  refine mw_icmp_ge hX (tgt := 190) dL_law_148 (by decide) (fun h => absurd h (by decide)) (fun _ => ?_)
  refine mw_aload_n hX dL_law_151 rfl rfl ?_
  refine mw_iload hX dL_law_152 rfl ?_
  refine mw_cV hX [_] ws_L_40 dL_law_154 (c_level (mw_l X) 1 (by decide) I mw_L0) (mw_Yl (by decide)) mw_YW (by decide) rfl (by decide) (by omega) (by omega) (Nat.le_of_ble_eq_true rfl) ?_
  refine mw_top (x := nI w1) e1 ?_
  refine mw_if_lt hX (tgt := 182) dL_law_157 (by decide) (fun h => absurd h (nI_pos (by omega))) (fun _ => ?_)
  refine mw_aload_n hX dL_law_160 rfl rfl ?_
  refine mw_iload hX dL_law_161 rfl ?_
  refine mw_cV hX [_] ws_L_40 dL_law_163 (c_level (mw_l X) 1 (by decide) I mw_L0) (mw_Yl (by decide)) mw_YW (by decide) rfl (by decide) (by omega) (by omega) (Nat.le_of_ble_eq_true rfl) ?_
  refine mw_top (x := nI w1) e1 ?_
  refine mw_bp hX (nI 100) dL_law_166 rfl ?_
  refine mw_icmp_gt hX (tgt := 182) dL_law_168 (by decide) (fun h => absurd h (nI_nlt (a := 100) (b := w1) (by omega) (by decide))) (fun _ => ?_)
  refine mw_aload_n hX dL_law_171 rfl rfl ?_
  refine mw_iload hX dL_law_172 rfl ?_
  refine mw_cV hX [_] ws_L_64 dL_law_174 (c_flow (mw_l X) 1 (by decide) I mw_L0) (mw_Yl (by decide)) mw_YW (by decide) rfl (by decide) (by omega) (by omega) (Nat.le_of_ble_eq_true rfl) ?_
  refine mw_bp hX (nI 16) dL_law_177 rfl ?_
  refine mw_icmp_le hX (tgt := 184) dL_law_179 (by decide) (fun _ => ?_) (fun h => absurd h (fun h2 => h2 f1))
  refine mw_inc hX (nI 2) dL_law_184 rfl (by decide) ?_
  dsimp only [List.set]
  refine mw_goto hX (tgt := 145) dL_law_187 (by decide) ?_
  refine mw_iload hX dL_law_145 rfl ?_
  refine mw_ic hX (nI 3) dL_law_147 rfl ?_
  refine mw_icmp_ge hX (tgt := 190) dL_law_148 (by decide) (fun h => absurd h (by decide)) (fun _ => ?_)
  refine mw_aload_n hX dL_law_151 rfl rfl ?_
  refine mw_iload hX dL_law_152 rfl ?_
  refine mw_cV hX [_] ws_L_40 dL_law_154 (c_level (mw_l X) 2 (by decide) I mw_L0) (mw_Yl (by decide)) mw_YW (by decide) rfl (by decide) (by omega) (by omega) (Nat.le_of_ble_eq_true rfl) ?_
  refine mw_top (x := nI w2) e2 ?_
  refine mw_if_lt hX (tgt := 182) dL_law_157 (by decide) (fun h => absurd h (nI_pos (by omega))) (fun _ => ?_)
  refine mw_aload_n hX dL_law_160 rfl rfl ?_
  refine mw_iload hX dL_law_161 rfl ?_
  refine mw_cV hX [_] ws_L_40 dL_law_163 (c_level (mw_l X) 2 (by decide) I mw_L0) (mw_Yl (by decide)) mw_YW (by decide) rfl (by decide) (by omega) (by omega) (Nat.le_of_ble_eq_true rfl) ?_
  refine mw_top (x := nI w2) e2 ?_
  refine mw_bp hX (nI 100) dL_law_166 rfl ?_
  refine mw_icmp_gt hX (tgt := 182) dL_law_168 (by decide) (fun h => absurd h (nI_nlt (a := 100) (b := w2) (by omega) (by decide))) (fun _ => ?_)
  refine mw_aload_n hX dL_law_171 rfl rfl ?_
  refine mw_iload hX dL_law_172 rfl ?_
  refine mw_cV hX [_] ws_L_64 dL_law_174 (c_flow (mw_l X) 2 (by decide) I mw_L0) (mw_Yl (by decide)) mw_YW (by decide) rfl (by decide) (by omega) (by omega) (Nat.le_of_ble_eq_true rfl) ?_
  refine mw_bp hX (nI 16) dL_law_177 rfl ?_
  refine mw_icmp_le hX (tgt := 184) dL_law_179 (by decide) (fun _ => ?_) (fun h => absurd h (fun h2 => h2 f2))
  refine mw_inc hX (nI 3) dL_law_184 rfl (by decide) ?_
  dsimp only [List.set]
  refine mw_goto hX (tgt := 145) dL_law_187 (by decide) ?_
  refine mw_iload hX dL_law_145 rfl ?_
  refine mw_ic hX (nI 3) dL_law_147 rfl ?_
  refine mw_icmp_ge hX (tgt := 190) dL_law_148 (by decide) (fun _ => ?_) (fun h => absurd h (fun h2 => h2 (by decide)))
  exact mw_le (by omega) (by omega) kk
theorem lp_round {X : mw_X} (hX : mw_Ok RL cL_law 16 644725 7167449 X) {k x n q : Nat} {I : mw_I} (hI : lpI k I) (hk : k < 24) (hx : x < 16777216) (hn : n + 718 ≤ 644725) (hq : q + 4408 ≤ 7167449) (kk : ∀ J, lpI (k + 1) J → mw_G X 30 [some (.ref 1000000), some (.ref 0), some (.int (nI (k + 1))), none, none] [] mw_Y0 J mw_L0 (n + 718) (q + 4408)) : mw_G X 57 [some (.ref 1000000), some (.ref 0), some (.int (nI k)), none, none] [.int (nI x)] mw_Y0 I mw_L0 n q := by
  obtain ⟨v4, g4, e4⟩ := lp_v4 (i := x % 3) (by omega) hI
  have hI1 := lp_inf (i := x % 3) (a := x / 3 % 51) (c := x % 101) (by omega) (by omega) (by omega) hI
  obtain ⟨I1, q1⟩ : ∃ J, mw_up (mw_up I (7 + 11 * (x % 3)) 4 (nI (x / 3 % 51))) (7 + 11 * (x % 3)) 5 (nI (x % 101)) = J := ⟨_, rfl⟩
  rw [q1] at hI1
  obtain ⟨v1, g1, e1⟩ := lp_v1 (i := x % 3) (o := x / 2 % 2) (by omega) (by omega) hI1
  have hI2 := lp_ord (i := x % 3) (o := x / 2 % 2) (a := x % 31) (by omega) (by omega) (by omega) hI1
  obtain ⟨I2, q2⟩ : ∃ J, mw_up I1 ((7 + 11 * (x % 3)) + 1) (x / 2 % 2) (nI (x % 31)) = J := ⟨_, rfl⟩
  rw [q2] at hI2
  obtain ⟨v3, g3, e3⟩ := lp_v3 (i := x / 5 % 3) (by omega) hI2
  have hI3 := lp_min (i := x / 5 % 3) (a := x % 21) (by omega) (by omega) hI2
  obtain ⟨I3, q3⟩ : ∃ J, mw_up I2 (7 + 11 * (x / 5 % 3)) 3 (nI (x % 21)) = J := ⟨_, rfl⟩
  rw [q3] at hI3
  obtain ⟨tt, e, r1, r2, r3, r4, hI4⟩ := lp_run (q := 1 + x % 4) hk (by omega) (by omega) hI3
  have r5 : runI tt e (1 + x % 4) I3 0 6 = nI (e + (1 + x % 4)) := hours_h r2 _
  obtain ⟨I4, q4⟩ : ∃ J, runI tt e (1 + x % 4) I3 = J := ⟨_, rfl⟩
  rw [q4] at hI4 r5
  refine mw_istore_n hX dL_law_57 rfl (Nat.le_of_ble_eq_true rfl) ?_
  dsimp only [List.set]
  refine mw_aload_n hX dL_law_58 rfl rfl ?_
  refine mw_iload_n hX dL_law_59 rfl rfl ?_
  refine mw_ic hX (nI 3) dL_law_60 rfl ?_
  refine mw_irem hX (by decide) dL_law_61 ?_
  refine mw_top (x := nI (x % 3)) (pk_rem (by omega) (by decide) (by decide)) ?_
  refine mw_iload_n hX dL_law_62 rfl rfl ?_
  refine mw_ic hX (nI 3) dL_law_63 rfl ?_
  refine mw_idiv hX (by decide) dL_law_64 ?_
  refine mw_top (x := nI (x / 3)) (pk_div (by omega) (by decide) (by decide)) ?_
  refine mw_bp hX (nI 51) dL_law_65 rfl ?_
  refine mw_irem hX (by decide) dL_law_67 ?_
  refine mw_top (x := nI (x / 3 % 51)) (pk_rem (by omega) (by decide) (by decide)) ?_
  refine mw_iload_n hX dL_law_68 rfl rfl ?_
  refine mw_bp hX (nI 101) dL_law_69 rfl ?_
  refine mw_irem hX (by decide) dL_law_71 ?_
  refine mw_top (x := nI (x % 101)) (pk_rem (by omega) (by decide) (by decide)) ?_
  refine mw_cV hX [_, _, _] ws_L_15 dL_law_72 (c_setInflow (mw_l X) (x % 3) (by omega) (nI (x / 3 % 51)) (nI (x % 101)) (okR_nI (n := 50) (by decide) (by omega)) (okR_nI (n := 100) (by decide) (by omega)) I mw_L0) (mw_Yl (by decide)) mw_YW (by decide) rfl (by decide) (by omega) (by omega) (Nat.le_of_ble_eq_true rfl) ?_
  refine mw_mem q1 ?_
  refine mw_top (x := nI v4) e4 ?_
  refine mw_if_lt hX (tgt := 140) dL_law_75 (by decide) (fun h => absurd h (nI_pos (by omega))) (fun _ => ?_)
  refine mw_aload_n hX dL_law_78 rfl rfl ?_
  refine mw_iload_n hX dL_law_79 rfl rfl ?_
  refine mw_ic hX (nI 3) dL_law_80 rfl ?_
  refine mw_irem hX (by decide) dL_law_81 ?_
  refine mw_top (x := nI (x % 3)) (pk_rem (by omega) (by decide) (by decide)) ?_
  refine mw_iload_n hX dL_law_82 rfl rfl ?_
  refine mw_ic hX (nI 2) dL_law_83 rfl ?_
  refine mw_idiv hX (by decide) dL_law_84 ?_
  refine mw_top (x := nI (x / 2)) (pk_div (by omega) (by decide) (by decide)) ?_
  refine mw_ic hX (nI 2) dL_law_85 rfl ?_
  refine mw_irem hX (by decide) dL_law_86 ?_
  refine mw_top (x := nI (x / 2 % 2)) (pk_rem (by omega) (by decide) (by decide)) ?_
  refine mw_iload_n hX dL_law_87 rfl rfl ?_
  refine mw_bp hX (nI 31) dL_law_88 rfl ?_
  refine mw_irem hX (by decide) dL_law_90 ?_
  refine mw_top (x := nI (x % 31)) (pk_rem (by omega) (by decide) (by decide)) ?_
  refine mw_cV hX [_, _, _] ws_L_23 dL_law_91 (c_order (mw_l X) (x % 3) (by omega) (x / 2 % 2) (by omega) (nI (x % 31)) (okR_nI (n := 30) (by decide) (by omega)) I1 mw_L0) (mw_Yl (by decide)) mw_YW (by decide) rfl (by decide) (by omega) (by omega) (Nat.le_of_ble_eq_true rfl) ?_
  refine mw_mem q2 ?_
  refine mw_top (x := nI v1) e1 ?_
  refine mw_if_lt hX (tgt := 140) dL_law_94 (by decide) (fun h => absurd h (nI_pos (by omega))) (fun _ => ?_)
  refine mw_aload_n hX dL_law_97 rfl rfl ?_
  refine mw_iload_n hX dL_law_98 rfl rfl ?_
  refine mw_ic hX (nI 5) dL_law_99 rfl ?_
  refine mw_idiv hX (by decide) dL_law_100 ?_
  refine mw_top (x := nI (x / 5)) (pk_div (by omega) (by decide) (by decide)) ?_
  refine mw_ic hX (nI 3) dL_law_101 rfl ?_
  refine mw_irem hX (by decide) dL_law_102 ?_
  refine mw_top (x := nI (x / 5 % 3)) (pk_rem (by omega) (by decide) (by decide)) ?_
  refine mw_iload_n hX dL_law_103 rfl rfl ?_
  refine mw_bp hX (nI 21) dL_law_104 rfl ?_
  refine mw_irem hX (by decide) dL_law_106 ?_
  refine mw_top (x := nI (x % 21)) (pk_rem (by omega) (by decide) (by decide)) ?_
  refine mw_cV hX [_, _] ws_L_19 dL_law_107 (c_setMinimum (mw_l X) (x / 5 % 3) (by omega) (nI (x % 21)) (okR_nI (n := 20) (by decide) (by omega)) I2 mw_L0) (mw_Yl (by decide)) mw_YW (by decide) rfl (by decide) (by omega) (by omega) (Nat.le_of_ble_eq_true rfl) ?_
  refine mw_mem q3 ?_
  refine mw_top (x := nI v3) e3 ?_
  refine mw_if_lt hX (tgt := 140) dL_law_110 (by decide) (fun h => absurd h (nI_pos (by omega))) (fun _ => ?_)
  refine mw_aload_n hX dL_law_113 rfl rfl ?_
  refine mw_ic hX (nI 1) dL_law_114 rfl ?_
  refine mw_iload_n hX dL_law_115 rfl rfl ?_
  refine mw_ic hX (nI 4) dL_law_116 rfl ?_
  refine mw_irem hX (by decide) dL_law_117 ?_
  refine mw_top (x := nI (x % 4)) (pk_rem (by omega) (by decide) (by decide)) ?_
  refine mw_iadd hX dL_law_118 ?_
  refine mw_top (x := nI (1 + x % 4)) (nI_add 1 (x % 4)) ?_
  refine mw_cV hX [_] ws_L_30 dL_law_119 (c_run (mw_l X) (1 + x % 4) (by omega) (by omega) e r1 tt I3 r2 r3 mw_L0) (mw_Yl (by decide)) mw_YW (by decide) rfl (by decide) (by omega) (by omega) (Nat.le_of_ble_eq_true rfl) ?_
  refine mw_mem q4 ?_
  refine mw_top (x := nI (e + (1 + x % 4))) (by rw [q4]; exact r5) ?_
  refine mw_iload_n hX dL_law_122 rfl rfl ?_
  refine mw_icmp_le hX (tgt := 140) dL_law_123 (by decide) (fun h => absurd h (nI_ge (a := k) (b := e + (1 + x % 4)) (by omega) (by omega))) (fun _ => ?_)
  refine mw_iload_n hX dL_law_126 rfl rfl ?_
  refine mw_bp hX (nI 6) dL_law_127 rfl ?_
  refine mw_irem hX (by decide) dL_law_129 ?_
  refine mw_top (x := nI (k % 6)) (pk_rem (by omega) (by decide) (by decide)) ?_
  have go : ∀ n2 q2, n2 ≤ n + 709 → q2 ≤ q + 4354 → mw_G X 142 [some (.ref 1000000), some (.ref 0), some (.int (nI k)), some (.int (nI x)), none] [] mw_Y0 I4 mw_L0 n2 q2 := by
    intro n2 q2 hn2 hq2
    refine mw_le hn2 hq2 ?_
    refine lp_checks2 hX hI4 (by omega) (by omega) ?_
    refine mw_inc hX (nI (k + 1)) dL_law_190 rfl (mw_inc1 _) ?_
    dsimp only [List.set]
    refine mw_goto hX (tgt := 30) dL_law_193 (by decide) ?_
    refine mw_drop 3 ?_
    refine mw_drop 4 ?_
    dsimp only [List.set]
    exact mw_le (by omega) (by omega) (kk I4 hI4)
  refine mw_if_ne hX (tgt := 142) dL_law_130 (by decide) (fun _ => ?_) (fun _ => ?_)
  · exact go _ _ (by omega) (by omega)
  · refine mw_aload_n hX dL_law_133 rfl rfl ?_
    refine mw_cS hX [_] ws_L_104 dL_law_134 (l_refuses (mw_l X) I4 mw_L0) rfl (by decide) (by omega) (by omega) (Nat.le_of_ble_eq_true rfl) ?_
    refine mw_if_ne hX (tgt := 142) dL_law_137 (by decide) (fun _ => ?_) (fun h => absurd h (by decide))
    exact go _ _ (by omega) (by omega)
set_option maxRecDepth 20000 in
theorem lp_loop {X : mw_X} (hX : mw_Ok RL cL_law 16 644725 7167449 X) {N : Nat} {xs : Nat → Int32} (hS : lw_Sc X N xs) (hN : N ≤ 260) (hfin : ∀ (n q : Nat) (I : mw_I), n ≤ 644725 → q ≤ 7167449 → mw_G X 197 [some (.ref 1000000), some (.ref 0), some (.int (nI 24)), none, none] [.int (nI 1)] mw_Y0 I mw_L0 n q) : ∀ (m k n q : Nat) (I : mw_I), k + m = 24 → lpI k I → n + 718 * m ≤ 600000 → q + 4408 * m ≤ 7000000 → mw_G X 30 [some (.ref 1000000), some (.ref 0), some (.int (nI k)), none, none] [] mw_Y0 I mw_L0 n q := by
  intro m
  induction m with
  | zero =>
    intro k n q I hk hI hn hq
    have e : k = 24 := by omega
    subst e
    refine mw_iload_n hX dL_law_30 rfl rfl ?_
    refine mw_bp hX (nI 24) dL_law_31 rfl ?_
    refine mw_icmp_ge hX (tgt := 196) dL_law_33 (by decide) (fun _ => ?_) (fun h => absurd h (fun h2 => h2 (by decide)))
    refine mw_ic hX (nI 1) dL_law_196 rfl ?_
    exact hfin _ _ _ (by omega) (by omega)
  | succ m ih =>
    intro k n q I hk hI hn hq
    have hk24 : k < 24 := by omega
    have go : ∀ x, x < 16777216 → mw_G X 57 [some (.ref 1000000), some (.ref 0), some (.int (nI k)), none, none] [.int (nI x)] mw_Y0 I mw_L0 n q := fun x hx => lp_round hX hI hk24 hx (by omega) (by omega) (fun J hJ => ih (k + 1) (n + 718) (q + 4408) J (by omega) hJ (by omega) (by omega))
    refine mw_iload_n hX dL_law_30 rfl rfl ?_
    refine mw_bp hX (nI 24) dL_law_31 rfl ?_
    refine mw_icmp_ge hX (tgt := 196) dL_law_33 (by decide) (fun h => absurd h (nI_ge (a := k) (b := 24) hk24 (by decide))) (fun _ => ?_)
    refine mw_aload_n hX dL_law_36 rfl rfl ?_
    refine mw_slen hX hS dL_law_37 (by decide) ?_
    refine mw_if_ne hX (tgt := 48) dL_law_38 (by decide) (fun h => ?_) (fun _ => ?_)
    · have h0 : 0 < N := Nat.pos_of_ne_zero (fun z => h (by rw [z]; rfl))
      refine mw_aload_n hX dL_law_48 rfl rfl ?_
      refine mw_iload_n hX dL_law_49 rfl rfl ?_
      refine mw_aload_n hX dL_law_50 rfl rfl ?_
      refine mw_slen hX hS dL_law_51 (by decide) ?_
      refine mw_irem hX h dL_law_52 ?_
      refine mw_top (x := nI (k % N)) (pk_rem (by omega) h0 (by omega)) ?_
      refine mw_sload hX hS (j := k % N) dL_law_53 (by decide) rfl (Nat.mod_lt _ h0) (by omega) ?_
      refine mw_bp hX (nI 8) dL_law_54 rfl ?_
      refine mw_iushr hX (v := nI ((xs (k % N)).toBitVec.toNat / 2 ^ 8)) ?_ dL_law_56 ?_
      · apply Int32.toBitVec_inj.mp
        apply BitVec.eq_of_toNat_eq
        have hb : (xs (k % N)).toBitVec.toNat < 2 ^ 32 := (xs (k % N)).toBitVec.isLt
        rw [pk_ushr _ (nI 8) 8 (by decide), pk_tn (by omega)]
      · have hb : (xs (k % N)).toBitVec.toNat < 2 ^ 32 := (xs (k % N)).toBitVec.isLt
        exact go _ (by omega)
    · refine mw_bp hX (nI 19) dL_law_41 rfl ?_
      refine mw_iload_n hX dL_law_43 rfl rfl ?_
      refine mw_imul hX dL_law_44 ?_
      refine mw_top (x := nI (19 * k)) (pk_mul 19 k) ?_
      refine mw_goto hX (tgt := 57) dL_law_45 (by decide) ?_
      exact go _ (by omega)
