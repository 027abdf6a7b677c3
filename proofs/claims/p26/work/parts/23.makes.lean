/-! the objects are made (by program: wip/whole/gen23.py) -/
theorem okr {a c r : Nat} (h : r < a) : mw_ok a c (.ref r) := Or.inl h
def mw_pE (b : Nat) : List mw_B := [((4, 0), [none, none, none, none, none, none, some (b + 1), some (b + 2), some (b + 3), some (b + 4), some (b + 7), some (b + 10), none, none, none, none]), ((0, 2), []), ((0, 2), []), ((0, 2), []), ((3, 2), [some (b + 5), some (b + 6)]), ((0, 6), []), ((0, 6), []), ((3, 2), [some (b + 8), some (b + 9)]), ((0, 9), []), ((0, 9), []), ((0, 17), [])]
def plI4 (I : mw_I) (b : Nat) : mw_I := mw_up (mw_up (mw_up (mw_up I b 0 100) b 1 10) b 2 1) b 5 50
def plI (I : mw_I) (b : Nat) : mw_I := mixI (lpN (fun k J => mw_up (mw_up J (b + 8 + 0) k (10 * nI k)) (b + 8 + 1) k (10 * nI k)) 9 (plI4 I b)) b
theorem fr_plI4 {I : mw_I} {b a : Nat} (h : a ≠ b) : plI4 I b a = I a := by
  unfold plI4
  rw [mw_up_ne h, mw_up_ne h, mw_up_ne h, mw_up_ne h]
theorem fr_plF {I : mw_I} {b a n : Nat} (h : a ≠ b + 8) (h2 : a ≠ b + 9) : lpN (fun k J => mw_up (mw_up J (b + 8 + 0) k (10 * nI k)) (b + 8 + 1) k (10 * nI k)) n I a = I a := lpN_inv (P := fun (J : mw_I) => J a = I a) n (fun _ _ _ hz => ((mw_up_ne h2).trans (mw_up_ne h)).trans hz) rfl
theorem fr_mix {I : mw_I} {b a : Nat} (h : a ≠ b + 10) : mixI I b a = I a := by
  have e1 : mixA I b a = I a := lpN_inv (P := fun (J : mw_I) => J a = I a) 17 (fun _ _ _ hz => (mw_up_ne h).trans hz) rfl
  have e2 : ∀ J : mw_I, mixB J b a = J a := fun J => lpN_inv (P := fun (K : mw_I) => K a = J a) 9 (fun c _ K hz => (lpN_inv (P := fun (M : mw_I) => M a = K a) 9 (fun _ _ _ hy => (mw_up_ne h).trans hy) rfl).trans hz) rfl
  have e3 : ∀ J : mw_I, mixC J b a = J a := fun J => lpN_inv (P := fun (K : mw_I) => K a = J a) 16 (fun _ _ _ hz => (mw_up_ne h).trans hz) rfl
  unfold mixI
  rw [e3, e2, e1]
theorem fr_plI {I : mw_I} {b a : Nat} (h : a ≠ b) (h8 : a ≠ b + 8) (h9 : a ≠ b + 9) (h10 : a ≠ b + 10) : plI I b a = I a := by
  unfold plI
  rw [fr_mix h10, fr_plF h8 h9, fr_plI4 h]
section
variable {A : List mw_B} {b : Nat}
theorem gy_isP (hA : A.length = b) : mw_isP (mw_yl (A ++ mw_pE b)) b := by
  refine ⟨by rw [gy_len hA]; exact Nat.le_refl _, ⟨gy_sh hA 0 rfl, gy_sh hA 1 rfl, gy_sh hA 2 rfl, gy_sh hA 3 rfl, gy_sh hA 4 rfl, fun o ho => ?_, gy_sh hA 7 rfl, fun o ho => ?_, gy_sh hA 10 rfl⟩, ⟨gy_rf hA 0 6 rfl, gy_rf hA 0 7 rfl, gy_rf hA 0 8 rfl, gy_rf hA 0 9 rfl, gy_rf hA 0 10 rfl, gy_rf hA 0 11 rfl⟩, fun o ho => ?_, fun o ho => ?_⟩
  · rcases (by omega : o = 0 ∨ o = 1) with rfl | rfl
    · exact gy_sh hA 5 rfl
    · exact gy_sh hA 6 rfl
  · rcases (by omega : o = 0 ∨ o = 1) with rfl | rfl
    · exact gy_sh hA 8 rfl
    · exact gy_sh hA 9 rfl
  · rcases (by omega : o = 0 ∨ o = 1) with rfl | rfl
    · exact gy_rf hA 4 0 rfl
    · exact gy_rf hA 4 1 rfl
  · rcases (by omega : o = 0 ∨ o = 1) with rfl | rfl
    · exact gy_rf hA 7 0 rfl
    · exact gy_rf hA 7 1 rfl
end
set_option maxRecDepth 20000 in
theorem c_initP (l : Launch) (A : List mw_B) (b : Nat) (hA : A.length = b) (I : mw_I) (hz : ∀ a, b ≤ a → I a = fun _ => 0) : mw_CT l yX0_init (.code yX0_init cX0_init 2 none) 3 10 57 [.ref b] (mw_yl (A ++ [((4, 0), [none, none, none, none, none, none, none, none, none, none, none, none, none, none, none, none])]), I, mw_L0) (.inl (none, mw_yl (A ++ mw_pE b), plI I b, mw_L0)) := by
  refine mw_enter RX0 rfl (by decide +kernel) (mw_cat rfl) (Nat.le_of_ble_eq_true rfl) (fun X hX hl hE hT hnm => ?_)
  subst hl
  have hnm2 : mw_nm "<init>" X := hnm
  have hz4 : ∀ a, b < a → plI4 I b a = fun _ => 0 := fun a ha => (fr_plI4 (by omega)).trans (hz a (by omega))
  show mw_G X 0 [some (.ref b), none] [] (mw_yl (A ++ [((4, 0), [none, none, none, none, none, none, none, none, none, none, none, none, none, none, none, none])])) I mw_L0 0 0
  refine mw_aload_n hX dX0_init_0 rfl rfl ?_
  refine mw_obj hX dX0_init_1 wo_X0_3 (Nat.le_of_ble_eq_true rfl) ?_
  refine mw_aload_n hX dX0_init_4 rfl rfl ?_
  refine mw_bp hX 100 dX0_init_5 rfl ?_
  refine mw_putI hX dX0_init_7 (gy_lt hA (i := 0) (by decide)) (gy_sh hA 0 rfl) fl_X0_9 (by decide) (by decide) rfl ?_
  refine mw_aload_n hX dX0_init_10 rfl rfl ?_
  refine mw_bp hX 10 dX0_init_11 rfl ?_
  refine mw_putI hX dX0_init_13 (gy_lt hA (i := 0) (by decide)) (gy_sh hA 0 rfl) fl_X0_15 (by decide) (by decide) rfl ?_
  refine mw_aload_n hX dX0_init_16 rfl rfl ?_
  refine mw_ic hX 1 dX0_init_17 rfl ?_
  refine mw_putI hX dX0_init_18 (gy_lt hA (i := 0) (by decide)) (gy_sh hA 0 rfl) fl_X0_18 (by decide) (by decide) rfl ?_
  refine mw_aload_n hX dX0_init_21 rfl rfl ?_
  refine mw_bp hX 50 dX0_init_22 rfl ?_
  refine mw_putI hX dX0_init_24 (gy_lt hA (i := 0) (by decide)) (gy_sh hA 0 rfl) fl_X0_21 (by decide) (by decide) rfl ?_
  refine mw_mem (J := plI4 I b) rfl ?_
  refine mw_aload_n hX dX0_init_27 rfl rfl ?_
  refine mw_ic hX 2 dX0_init_28 rfl ?_
  refine gy_newI hX hA (N := 2) (a := b + 1) dX0_init_29 rfl (by decide) (by omega) (by omega) rfl (oL_some (okr (by omega)) (oL_none oL_nil)) (oS_cons (okr (by omega)) oS_nil) (hz4 _ (by omega)) (t' := [((4, 0), [none, none, none, none, none, none, none, none, none, none, none, none, none, none, none, none]), ((0, 2), [])]) rfl ?_
  refine gy_putR hX hA hnm2 dX0_init_31 (Nat.add_zero b) (Nat.le_of_ble_eq_true rfl) rfl fl_X0_24 rfl rfl (by decide) (by decide) rfl (Nat.add_lt_add_left (Nat.le_of_ble_eq_true rfl) b) (Nat.le_of_ble_eq_true rfl) (t' := [((4, 0), [none, none, none, none, none, none, some (b + 1), none, none, none, none, none, none, none, none, none]), ((0, 2), [])]) rfl ?_
  refine mw_aload_n hX dX0_init_34 rfl rfl ?_
  refine mw_ic hX 2 dX0_init_35 rfl ?_
  refine gy_newI hX hA (N := 2) (a := b + 2) dX0_init_36 rfl (by decide) (by omega) (by omega) rfl (oL_some (okr (by omega)) (oL_none oL_nil)) (oS_cons (okr (by omega)) oS_nil) (hz4 _ (by omega)) (t' := [((4, 0), [none, none, none, none, none, none, some (b + 1), none, none, none, none, none, none, none, none, none]), ((0, 2), []), ((0, 2), [])]) rfl ?_
  refine gy_putR hX hA hnm2 dX0_init_38 (Nat.add_zero b) (Nat.le_of_ble_eq_true rfl) rfl fl_X0_28 rfl rfl (by decide) (by decide) rfl (Nat.add_lt_add_left (Nat.le_of_ble_eq_true rfl) b) (Nat.le_of_ble_eq_true rfl) (t' := [((4, 0), [none, none, none, none, none, none, some (b + 1), some (b + 2), none, none, none, none, none, none, none, none]), ((0, 2), []), ((0, 2), [])]) rfl ?_
  refine mw_aload_n hX dX0_init_41 rfl rfl ?_
  refine mw_ic hX 2 dX0_init_42 rfl ?_
  refine gy_newI hX hA (N := 2) (a := b + 3) dX0_init_43 rfl (by decide) (by omega) (by omega) rfl (oL_some (okr (by omega)) (oL_none oL_nil)) (oS_cons (okr (by omega)) oS_nil) (hz4 _ (by omega)) (t' := [((4, 0), [none, none, none, none, none, none, some (b + 1), some (b + 2), none, none, none, none, none, none, none, none]), ((0, 2), []), ((0, 2), []), ((0, 2), [])]) rfl ?_
  refine gy_putR hX hA hnm2 dX0_init_45 (Nat.add_zero b) (Nat.le_of_ble_eq_true rfl) rfl fl_X0_31 rfl rfl (by decide) (by decide) rfl (Nat.add_lt_add_left (Nat.le_of_ble_eq_true rfl) b) (Nat.le_of_ble_eq_true rfl) (t' := [((4, 0), [none, none, none, none, none, none, some (b + 1), some (b + 2), some (b + 3), none, none, none, none, none, none, none]), ((0, 2), []), ((0, 2), []), ((0, 2), [])]) rfl ?_
  refine mw_aload_n hX dX0_init_48 rfl rfl ?_
  refine mw_ic hX 2 dX0_init_49 rfl ?_
  refine mw_bp hX 6 dX0_init_50 rfl ?_
  refine gy_newM hX hA (K := 6) (a := b + 4) dX0_init_52 wm_X0_34 rfl rfl (by decide) (by omega) (by omega) rfl (oL_some (okr (by omega)) (oL_none oL_nil)) (oS_cons (okr (by omega)) oS_nil) (hz4 _ (by omega)) (hz4 _ (by omega)) (t' := [((4, 0), [none, none, none, none, none, none, some (b + 1), some (b + 2), some (b + 3), none, none, none, none, none, none, none]), ((0, 2), []), ((0, 2), []), ((0, 2), []), ((3, 2), [some (b + 5), some (b + 6)]), ((0, 6), []), ((0, 6), [])]) rfl ?_
  refine gy_putR hX hA hnm2 dX0_init_56 (Nat.add_zero b) (Nat.le_of_ble_eq_true rfl) rfl fl_X0_36 rfl rfl (by decide) (by decide) rfl (Nat.add_lt_add_left (Nat.le_of_ble_eq_true rfl) b) (Nat.le_of_ble_eq_true rfl) (t' := [((4, 0), [none, none, none, none, none, none, some (b + 1), some (b + 2), some (b + 3), some (b + 4), none, none, none, none, none, none]), ((0, 2), []), ((0, 2), []), ((0, 2), []), ((3, 2), [some (b + 5), some (b + 6)]), ((0, 6), []), ((0, 6), [])]) rfl ?_
  refine mw_aload_n hX dX0_init_59 rfl rfl ?_
  refine mw_ic hX 2 dX0_init_60 rfl ?_
  refine mw_bp hX 9 dX0_init_61 rfl ?_
  refine gy_newM hX hA (K := 9) (a := b + 7) dX0_init_63 wm_X0_34 rfl rfl (by decide) (by omega) (by omega) rfl (oL_some (okr (by omega)) (oL_none oL_nil)) (oS_cons (okr (by omega)) oS_nil) (hz4 _ (by omega)) (hz4 _ (by omega)) (t' := [((4, 0), [none, none, none, none, none, none, some (b + 1), some (b + 2), some (b + 3), some (b + 4), none, none, none, none, none, none]), ((0, 2), []), ((0, 2), []), ((0, 2), []), ((3, 2), [some (b + 5), some (b + 6)]), ((0, 6), []), ((0, 6), []), ((3, 2), [some (b + 8), some (b + 9)]), ((0, 9), []), ((0, 9), [])]) rfl ?_
  refine gy_putR hX hA hnm2 dX0_init_67 (Nat.add_zero b) (Nat.le_of_ble_eq_true rfl) rfl fl_X0_39 rfl rfl (by decide) (by decide) rfl (Nat.add_lt_add_left (Nat.le_of_ble_eq_true rfl) b) (Nat.le_of_ble_eq_true rfl) (t' := [((4, 0), [none, none, none, none, none, none, some (b + 1), some (b + 2), some (b + 3), some (b + 4), some (b + 7), none, none, none, none, none]), ((0, 2), []), ((0, 2), []), ((0, 2), []), ((3, 2), [some (b + 5), some (b + 6)]), ((0, 6), []), ((0, 6), []), ((3, 2), [some (b + 8), some (b + 9)]), ((0, 9), []), ((0, 9), [])]) rfl ?_
  refine mw_aload_n hX dX0_init_70 rfl rfl ?_
  refine mw_bp hX 17 dX0_init_71 rfl ?_
  refine gy_newI hX hA (N := 17) (a := b + 10) dX0_init_73 rfl (by decide) (by omega) (by omega) rfl (oL_some (okr (by omega)) (oL_none oL_nil)) (oS_cons (okr (by omega)) oS_nil) (hz4 _ (by omega)) (t' := [((4, 0), [none, none, none, none, none, none, some (b + 1), some (b + 2), some (b + 3), some (b + 4), some (b + 7), none, none, none, none, none]), ((0, 2), []), ((0, 2), []), ((0, 2), []), ((3, 2), [some (b + 5), some (b + 6)]), ((0, 6), []), ((0, 6), []), ((3, 2), [some (b + 8), some (b + 9)]), ((0, 9), []), ((0, 9), []), ((0, 17), [])]) rfl ?_
  refine gy_putR hX hA hnm2 dX0_init_75 (Nat.add_zero b) (Nat.le_of_ble_eq_true rfl) rfl fl_X0_42 rfl rfl (by decide) (by decide) rfl (Nat.add_lt_add_left (Nat.le_of_ble_eq_true rfl) b) (Nat.le_of_ble_eq_true rfl) (t' := [((4, 0), [none, none, none, none, none, none, some (b + 1), some (b + 2), some (b + 3), some (b + 4), some (b + 7), some (b + 10), none, none, none, none]), ((0, 2), []), ((0, 2), []), ((0, 2), []), ((3, 2), [some (b + 5), some (b + 6)]), ((0, 6), []), ((0, 6), []), ((3, 2), [some (b + 8), some (b + 9)]), ((0, 9), []), ((0, 9), []), ((0, 17), [])]) rfl ?_
  refine mw_relay (y' := mw_yl (A ++ mw_pE b)) rfl (fun _ _ => ⟨rfl, rfl⟩) ?_
  have hP : mw_isP (mw_yl (A ++ mw_pE b)) b := gy_isP hA
  refine mw_ic hX 0 dX0_init_78 rfl ?_
  refine mw_istore_n hX dX0_init_79 rfl (Nat.le_of_ble_eq_true rfl) ?_
  dsimp only [List.set]
  refine lp_dn (P := fun k => mw_G X 80 [some (.ref b), some (.int (nI (k)))] [] (mw_yl (A ++ mw_pE b)) (lpN (fun k J => mw_up (mw_up J (b + 8 + 0) k (10 * nI k)) (b + 8 + 1) k (10 * nI k)) k (plI4 I b)) (mw_L0) 10 57) 0 9 ?_ ?_ 0 (Nat.le_refl _) (by omega)
  · show mw_G X 80 [some (.ref b), some (.int (nI (9)))] [] (mw_yl (A ++ mw_pE b)) (lpN (fun k J => mw_up (mw_up J (b + 8 + 0) k (10 * nI k)) (b + 8 + 1) k (10 * nI k)) 9 (plI4 I b)) (mw_L0) 10 57
    refine mw_iload_n hX dX0_init_80 rfl rfl ?_
    refine mw_bp hX 8 dX0_init_81 rfl ?_
    refine mw_icmp_gt hX (tgt := 116) dX0_init_83 (by decide) (fun h83 => ?_) (fun h83 => ?_)
    · refine mw_aload_n hX dX0_init_116 rfl rfl ?_
      refine mw_cV hX [] ws_X0_45 dX0_init_117 (c_findMixes (mw_l X) _ b hP _ mw_L0) hP.l0 hP.s0 (by decide) rfl (by omega) (by omega) (by omega) (Nat.le_of_ble_eq_true rfl) ?_
      exact mw_return hX hE dX0_init_120 (rfl) (by omega) (by omega)
    · exact absurd (nI_lt (a := 8) (b := 9) (by omega) (by omega)) h83
  · intro k hsk hk ihk
    show mw_G X 80 [some (.ref b), some (.int (nI (k)))] [] (mw_yl (A ++ mw_pE b)) (lpN (fun k J => mw_up (mw_up J (b + 8 + 0) k (10 * nI k)) (b + 8 + 1) k (10 * nI k)) k (plI4 I b)) (mw_L0) 10 57
    refine mw_iload_n hX dX0_init_80 rfl rfl ?_
    refine mw_bp hX 8 dX0_init_81 rfl ?_
    refine mw_icmp_gt hX (tgt := 116) dX0_init_83 (by decide) (fun h83 => ?_) (fun h83 => ?_)
    · exact absurd h83 (nI_nlt (a := 8) (b := k) (by omega) (by omega))
    · refine mw_aload_n hX dX0_init_86 rfl rfl ?_
      refine mw_getR hX dX0_init_87 hP.l0 hP.s0 fl_X0_39 (by decide) (by decide) rfl hP.r10 ?_
      refine mw_ic hX 0 dX0_init_90 rfl ?_
      refine mw_aaloadR hX (j := 0) dX0_init_91 hP.l7 hP.s7 rfl (by decide) (by decide) (hP.yy (by omega)) ?_
      refine mw_iload_n hX dX0_init_92 rfl rfl ?_
      refine mw_bp hX 10 dX0_init_93 rfl ?_
      refine mw_iload_n hX dX0_init_95 rfl rfl ?_
      refine mw_imul hX dX0_init_96 ?_
      refine mw_iastore hX (j := k) dX0_init_97 (hP.l8 (o := 0) (by omega)) (hP.s8 (o := 0) (by omega)) rfl (by omega) (by decide) ?_
      refine mw_aload_n hX dX0_init_98 rfl rfl ?_
      refine mw_getR hX dX0_init_99 hP.l0 hP.s0 fl_X0_39 (by decide) (by decide) rfl hP.r10 ?_
      refine mw_ic hX 1 dX0_init_102 rfl ?_
      refine mw_aaloadR hX (j := 1) dX0_init_103 hP.l7 hP.s7 rfl (by decide) (by decide) (hP.yy (by omega)) ?_
      refine mw_iload_n hX dX0_init_104 rfl rfl ?_
      refine mw_bp hX 10 dX0_init_105 rfl ?_
      refine mw_iload_n hX dX0_init_107 rfl rfl ?_
      refine mw_imul hX dX0_init_108 ?_
      refine mw_iastore hX (j := k) dX0_init_109 (hP.l8 (o := 1) (by omega)) (hP.s8 (o := 1) (by omega)) rfl (by omega) (by decide) ?_
      refine mw_inc hX (nI (k + 1)) dX0_init_110 rfl (mw_inc1 _) ?_
      dsimp only [List.set]
      refine mw_goto hX (tgt := 80) dX0_init_113 (by decide) ?_
      exact ihk
def mw_w (r : List (Option Nat)) : List mw_B := [((5, 0), [some 1, some 2, some 3, some 4, some 5, some 6, none]), ((2, 3), r), ((0, 2), []), ((0, 2), []), ((0, 2), []), ((0, 201), []), ((0, 201), [])]
def mw_w0 : List mw_B := mw_w [none, none, none]
def mw_w1 : List mw_B := mw_w [some 7, none, none] ++ mw_pE 7
def mw_w2 : List mw_B := mw_w [some 7, some 18, none] ++ mw_pE 7 ++ mw_pE 18
def mw_w3 : List mw_B := mw_w [some 7, some 18, some 29] ++ mw_pE 7 ++ mw_pE 18 ++ mw_pE 29
def wcI : mw_I := plI (plI (plI mw_I0 7) 18) 29
theorem wp_X1_9 : Cond.classLink RX1 9 RX0 ∈ mw_bg := mw_inT 18 (by decide +kernel) rfl
set_option maxRecDepth 20000 in
theorem c_initW (l : Launch) : mw_CT l yX1_init (.code yX1_init cX1_init 2 none) 4 39 630 [.ref 0] (mw_yl ([] ++ [((5, 0), [none, none, none, none, none, none, none])]), mw_I0, mw_L0) (.inl (none, mw_yl mw_w3, wcI, mw_L0)) := by
  refine mw_enter RX1 rfl (by decide +kernel) (mw_cat rfl) (Nat.le_of_ble_eq_true rfl) (fun X hX hl hE hT hnm => ?_)
  subst hl
  have hnm2 : mw_nm "<init>" X := hnm
  have hA : ([] : List mw_B).length = 0 := rfl
  have hz7 : ∀ a, 7 ≤ a → mw_I0 a = fun _ => 0 := fun _ _ => rfl
  have hz18 : ∀ a, 18 ≤ a → plI mw_I0 7 a = fun _ => 0 := fun a ha => (fr_plI (by omega) (by omega) (by omega) (by omega)).trans (hz7 a (by omega))
  have hz29 : ∀ a, 29 ≤ a → plI (plI mw_I0 7) 18 a = fun _ => 0 := fun a ha => (fr_plI (by omega) (by omega) (by omega) (by omega)).trans (hz18 a (by omega))
  show mw_G X 0 [some (.ref 0), none] [] (mw_yl ([] ++ [((5, 0), [none, none, none, none, none, none, none])])) mw_I0 mw_L0 0 0
  refine mw_aload_n hX dX1_init_0 rfl rfl ?_
  refine mw_obj hX dX1_init_1 wo_X1_3 (Nat.le_of_ble_eq_true rfl) ?_
  refine mw_aload_n hX dX1_init_4 rfl rfl ?_
  refine mw_ic hX 3 dX1_init_5 rfl ?_
  refine gy_newP hX hA (N := 3) (a := 1) dX1_init_6 wp_X1_9 rfl (by decide) (by omega) (by omega) rfl (oL_some (okr (by decide)) (oL_none oL_nil)) (oS_cons (okr (by decide)) oS_nil) rfl (t' := [((5, 0), [none, none, none, none, none, none, none]), ((2, 3), [none, none, none])]) rfl ?_
  refine gy_putR hX hA hnm2 dX1_init_9 (i := 0) rfl (Nat.le_of_ble_eq_true rfl) rfl fl_X1_11 rfl rfl (by decide) (by decide) rfl (Nat.le_of_ble_eq_true rfl) (Nat.le_of_ble_eq_true rfl) (t' := [((5, 0), [some 1, none, none, none, none, none, none]), ((2, 3), [none, none, none])]) rfl ?_
  refine mw_aload_n hX dX1_init_12 rfl rfl ?_
  refine mw_ic hX 2 dX1_init_13 rfl ?_
  refine gy_newI hX hA (N := 2) (a := 2) dX1_init_14 rfl (by decide) (by omega) (by omega) rfl (oL_some (okr (by decide)) (oL_none oL_nil)) (oS_cons (okr (by decide)) oS_nil) rfl (t' := [((5, 0), [some 1, none, none, none, none, none, none]), ((2, 3), [none, none, none]), ((0, 2), [])]) rfl ?_
  refine gy_putR hX hA hnm2 dX1_init_16 (i := 0) rfl (Nat.le_of_ble_eq_true rfl) rfl fl_X1_15 rfl rfl (by decide) (by decide) rfl (Nat.le_of_ble_eq_true rfl) (Nat.le_of_ble_eq_true rfl) (t' := [((5, 0), [some 1, some 2, none, none, none, none, none]), ((2, 3), [none, none, none]), ((0, 2), [])]) rfl ?_
  refine mw_aload_n hX dX1_init_19 rfl rfl ?_
  refine mw_ic hX 2 dX1_init_20 rfl ?_
  refine gy_newI hX hA (N := 2) (a := 3) dX1_init_21 rfl (by decide) (by omega) (by omega) rfl (oL_some (okr (by decide)) (oL_none oL_nil)) (oS_cons (okr (by decide)) oS_nil) rfl (t' := [((5, 0), [some 1, some 2, none, none, none, none, none]), ((2, 3), [none, none, none]), ((0, 2), []), ((0, 2), [])]) rfl ?_
  refine gy_putR hX hA hnm2 dX1_init_23 (i := 0) rfl (Nat.le_of_ble_eq_true rfl) rfl fl_X1_19 rfl rfl (by decide) (by decide) rfl (Nat.le_of_ble_eq_true rfl) (Nat.le_of_ble_eq_true rfl) (t' := [((5, 0), [some 1, some 2, some 3, none, none, none, none]), ((2, 3), [none, none, none]), ((0, 2), []), ((0, 2), [])]) rfl ?_
  refine mw_aload_n hX dX1_init_26 rfl rfl ?_
  refine mw_ic hX 2 dX1_init_27 rfl ?_
  refine gy_newI hX hA (N := 2) (a := 4) dX1_init_28 rfl (by decide) (by omega) (by omega) rfl (oL_some (okr (by decide)) (oL_none oL_nil)) (oS_cons (okr (by decide)) oS_nil) rfl (t' := [((5, 0), [some 1, some 2, some 3, none, none, none, none]), ((2, 3), [none, none, none]), ((0, 2), []), ((0, 2), []), ((0, 2), [])]) rfl ?_
  refine gy_putR hX hA hnm2 dX1_init_30 (i := 0) rfl (Nat.le_of_ble_eq_true rfl) rfl fl_X1_22 rfl rfl (by decide) (by decide) rfl (Nat.le_of_ble_eq_true rfl) (Nat.le_of_ble_eq_true rfl) (t' := [((5, 0), [some 1, some 2, some 3, some 4, none, none, none]), ((2, 3), [none, none, none]), ((0, 2), []), ((0, 2), []), ((0, 2), [])]) rfl ?_
  refine mw_aload_n hX dX1_init_33 rfl rfl ?_
  refine mw_sp hX 201 dX1_init_34 rfl ?_
  refine gy_newI hX hA (N := 201) (a := 5) dX1_init_37 rfl (by decide) (by omega) (by omega) rfl (oL_some (okr (by decide)) (oL_none oL_nil)) (oS_cons (okr (by decide)) oS_nil) rfl (t' := [((5, 0), [some 1, some 2, some 3, some 4, none, none, none]), ((2, 3), [none, none, none]), ((0, 2), []), ((0, 2), []), ((0, 2), []), ((0, 201), [])]) rfl ?_
  refine gy_putR hX hA hnm2 dX1_init_39 (i := 0) rfl (Nat.le_of_ble_eq_true rfl) rfl fl_X1_25 rfl rfl (by decide) (by decide) rfl (Nat.le_of_ble_eq_true rfl) (Nat.le_of_ble_eq_true rfl) (t' := [((5, 0), [some 1, some 2, some 3, some 4, some 5, none, none]), ((2, 3), [none, none, none]), ((0, 2), []), ((0, 2), []), ((0, 2), []), ((0, 201), [])]) rfl ?_
  refine mw_aload_n hX dX1_init_42 rfl rfl ?_
  refine mw_sp hX 201 dX1_init_43 rfl ?_
  refine gy_newI hX hA (N := 201) (a := 6) dX1_init_46 rfl (by decide) (by omega) (by omega) rfl (oL_some (okr (by decide)) (oL_none oL_nil)) (oS_cons (okr (by decide)) oS_nil) rfl (t' := [((5, 0), [some 1, some 2, some 3, some 4, some 5, none, none]), ((2, 3), [none, none, none]), ((0, 2), []), ((0, 2), []), ((0, 2), []), ((0, 201), []), ((0, 201), [])]) rfl ?_
  refine gy_putR hX hA hnm2 dX1_init_48 (i := 0) rfl (Nat.le_of_ble_eq_true rfl) rfl fl_X1_28 rfl rfl (by decide) (by decide) rfl (Nat.le_of_ble_eq_true rfl) (Nat.le_of_ble_eq_true rfl) (t' := [((5, 0), [some 1, some 2, some 3, some 4, some 5, some 6, none]), ((2, 3), [none, none, none]), ((0, 2), []), ((0, 2), []), ((0, 2), []), ((0, 201), []), ((0, 201), [])]) rfl ?_
  refine mw_ic hX 0 dX1_init_51 rfl ?_
  refine mw_istore_n hX dX1_init_52 rfl (Nat.le_of_ble_eq_true rfl) ?_
  dsimp only [List.set]
  refine mw_relay (y' := mw_yl (mw_w0 ++ [])) rfl (fun _ _ => ⟨rfl, rfl⟩) ?_
  refine mw_iload_n hX dX1_init_53 rfl rfl ?_
  refine mw_ic hX 3 dX1_init_54 rfl ?_
  refine mw_icmp_ge hX (tgt := 77) dX1_init_55 (by decide) (fun h55 => absurd h55 (by decide)) (fun h55 => ?_)
  refine mw_aload_n hX dX1_init_58 rfl rfl ?_
  refine mw_getR hX (r := 1) dX1_init_59 (by decide) rfl fl_X1_11 (by decide) (by decide) rfl rfl ?_
  refine mw_iload_n hX dX1_init_62 rfl rfl ?_
  refine gy_new hX (A := mw_w0) (b := 7) rfl (q := 0) (a := 7) (by decide) dX1_init_63 wn_X1_9 (by omega) (Nat.le_of_ble_eq_true rfl) rfl (oL_some (okr (by decide)) (oL_some trivial oL_nil)) (oS_cons trivial (oS_cons (okr (by decide)) oS_nil)) (hz7 _ (by decide)) (t' := [((4, 0), [none, none, none, none, none, none, none, none, none, none, none, none, none, none, none, none])]) rfl ?_
  refine mw_dupR hX dX1_init_66 ?_
  refine mw_cI hX [] ws_X1_31 dX1_init_67 (c_initP (mw_l X) mw_w0 7 rfl _ hz7) rfl (by omega) (by omega) (Nat.le_of_ble_eq_true rfl) (Nat.le_of_ble_eq_true rfl) (oL_some (okr (by decide)) (oL_some trivial oL_nil)) (oS_cons (okr (by decide)) (oS_cons trivial (oS_cons (okr (by decide)) oS_nil))) ?_
  refine mw_aastore hX (a := 1) (N := 3) (j := 0) (r := 7) (n0 := 0) dX1_init_70 (by decide) rfl rfl (by decide) (by decide) (by decide) rfl ?_
  refine gy_prS (A := []) (b := 0) (i := 1) (t := mw_w0 ++ mw_pE 7) (t' := mw_w1) rfl rfl (Nat.le_of_ble_eq_true rfl) (Nat.le_of_ble_eq_true rfl) rfl ?_
  refine mw_inc hX 1 dX1_init_71 rfl rfl ?_
  dsimp only [List.set]
  refine mw_goto hX (tgt := 53) dX1_init_74 (by decide) ?_
  refine mw_relay (y' := mw_yl (mw_w1 ++ [])) rfl (fun _ _ => ⟨rfl, rfl⟩) ?_
  refine mw_iload_n hX dX1_init_53 rfl rfl ?_
  refine mw_ic hX 3 dX1_init_54 rfl ?_
  refine mw_icmp_ge hX (tgt := 77) dX1_init_55 (by decide) (fun h55 => absurd h55 (by decide)) (fun h55 => ?_)
  refine mw_aload_n hX dX1_init_58 rfl rfl ?_
  refine mw_getR hX (r := 1) dX1_init_59 (by decide) rfl fl_X1_11 (by decide) (by decide) rfl rfl ?_
  refine mw_iload_n hX dX1_init_62 rfl rfl ?_
  refine gy_new hX (A := mw_w1) (b := 18) rfl (q := 0) (a := 18) (by decide) dX1_init_63 wn_X1_9 (by omega) (Nat.le_of_ble_eq_true rfl) rfl (oL_some (okr (by decide)) (oL_some trivial oL_nil)) (oS_cons trivial (oS_cons (okr (by decide)) oS_nil)) (hz18 _ (by decide)) (t' := [((4, 0), [none, none, none, none, none, none, none, none, none, none, none, none, none, none, none, none])]) rfl ?_
  refine mw_dupR hX dX1_init_66 ?_
  refine mw_cI hX [] ws_X1_31 dX1_init_67 (c_initP (mw_l X) mw_w1 18 rfl _ hz18) rfl (by omega) (by omega) (Nat.le_of_ble_eq_true rfl) (Nat.le_of_ble_eq_true rfl) (oL_some (okr (by decide)) (oL_some trivial oL_nil)) (oS_cons (okr (by decide)) (oS_cons trivial (oS_cons (okr (by decide)) oS_nil))) ?_
  refine mw_aastore hX (a := 1) (N := 3) (j := 1) (r := 18) (n0 := 0) dX1_init_70 (by decide) rfl rfl (by decide) (by decide) (by decide) rfl ?_
  refine gy_prS (A := []) (b := 0) (i := 1) (t := mw_w1 ++ mw_pE 18) (t' := mw_w2) rfl rfl (Nat.le_of_ble_eq_true rfl) (Nat.le_of_ble_eq_true rfl) rfl ?_
  refine mw_inc hX 2 dX1_init_71 rfl rfl ?_
  dsimp only [List.set]
  refine mw_goto hX (tgt := 53) dX1_init_74 (by decide) ?_
  refine mw_relay (y' := mw_yl (mw_w2 ++ [])) rfl (fun _ _ => ⟨rfl, rfl⟩) ?_
  refine mw_iload_n hX dX1_init_53 rfl rfl ?_
  refine mw_ic hX 3 dX1_init_54 rfl ?_
  refine mw_icmp_ge hX (tgt := 77) dX1_init_55 (by decide) (fun h55 => absurd h55 (by decide)) (fun h55 => ?_)
  refine mw_aload_n hX dX1_init_58 rfl rfl ?_
  refine mw_getR hX (r := 1) dX1_init_59 (by decide) rfl fl_X1_11 (by decide) (by decide) rfl rfl ?_
  refine mw_iload_n hX dX1_init_62 rfl rfl ?_
  refine gy_new hX (A := mw_w2) (b := 29) rfl (q := 0) (a := 29) (by decide) dX1_init_63 wn_X1_9 (by omega) (Nat.le_of_ble_eq_true rfl) rfl (oL_some (okr (by decide)) (oL_some trivial oL_nil)) (oS_cons trivial (oS_cons (okr (by decide)) oS_nil)) (hz29 _ (by decide)) (t' := [((4, 0), [none, none, none, none, none, none, none, none, none, none, none, none, none, none, none, none])]) rfl ?_
  refine mw_dupR hX dX1_init_66 ?_
  refine mw_cI hX [] ws_X1_31 dX1_init_67 (c_initP (mw_l X) mw_w2 29 rfl _ hz29) rfl (by omega) (by omega) (Nat.le_of_ble_eq_true rfl) (Nat.le_of_ble_eq_true rfl) (oL_some (okr (by decide)) (oL_some trivial oL_nil)) (oS_cons (okr (by decide)) (oS_cons trivial (oS_cons (okr (by decide)) oS_nil))) ?_
  refine mw_aastore hX (a := 1) (N := 3) (j := 2) (r := 29) (n0 := 0) dX1_init_70 (by decide) rfl rfl (by decide) (by decide) (by decide) rfl ?_
  refine gy_prS (A := []) (b := 0) (i := 1) (t := mw_w2 ++ mw_pE 29) (t' := mw_w3) rfl rfl (Nat.le_of_ble_eq_true rfl) (Nat.le_of_ble_eq_true rfl) rfl ?_
  refine mw_inc hX 3 dX1_init_71 rfl rfl ?_
  dsimp only [List.set]
  refine mw_goto hX (tgt := 53) dX1_init_74 (by decide) ?_
  refine mw_iload_n hX dX1_init_53 rfl rfl ?_
  refine mw_ic hX 3 dX1_init_54 rfl ?_
  refine mw_icmp_ge hX (tgt := 77) dX1_init_55 (by decide) (fun h55 => ?_) (fun h55 => absurd (by decide) h55)
  exact mw_return hX hE dX1_init_77 rfl (Nat.le_of_ble_eq_true rfl) (Nat.le_of_ble_eq_true rfl)
theorem gy_end : ∀ k, k < (mw_yl mw_w3).1 → (mw_yl mw_w3).2.1 k = mw_Y0.2.1 k ∧ (mw_yl mw_w3).2.2 k = mw_Y0.2.2 k := by
  have h1 : ∀ k, k < 40 → (mw_yl mw_w3).2.1 k = mw_Y0.2.1 k := by decide +kernel
  have h2 : ∀ k, k < 40 → ∀ j, j < 16 → (mw_yl mw_w3).2.2 k j = mw_Y0.2.2 k j := by decide +kernel
  have h3 : ∀ k, k < 40 → (mw_w3.getD k mw_d).2.length ≤ 16 ∧ (mw_rfL.getD k []).length ≤ 16 := by decide +kernel
  intro k hk
  have hk' : k < 40 := hk
  refine ⟨h1 k hk', funext fun j => ?_⟩
  rcases Nat.lt_or_ge j 16 with q | q
  · exact h2 k hk' j q
  · obtain ⟨e1, e2⟩ := h3 k hk'
    show (mw_w3.getD k mw_d).2.getD j none = (mw_rfL.getD k []).getD j none
    rw [List.getD_eq_getElem?_getD, List.getElem?_eq_none (by omega), List.getD_eq_getElem?_getD (l := mw_rfL.getD k []), List.getElem?_eq_none (by omega)]
