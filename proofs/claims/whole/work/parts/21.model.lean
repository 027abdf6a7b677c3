/-! WaterCascadeModel: all methods (by program: wip/whole/gen21.py) -/
theorem mw_t0 {I : mw_I} : mw_up I 40 19 0 40 19 = 0 := mw_up_at
theorem mw_mem {X : mw_X} {pc : Nat} {ls : List (Option Value)} {st : List Value} {y : mw_Y} {I J : mw_I} {L : mw_L} {n k : Nat} (h : I = J) (kk : mw_G X pc ls st y J L n k) : mw_G X pc ls st y I L n k := by subst h; exact kk
def filledV (I : mw_I) (p : Nat) : Int32 := I 49 (2 * p) + I 49 (2 * p + 1)
def richerN (I : mw_I) (p : Nat) : Nat := if I 49 (2 * p + 1) ≤ I 49 (2 * p) then 0 else 1
theorem richerN_lt (I : mw_I) (p : Nat) : richerN I p < 2 := by unfold richerN; split <;> omega
def mixedG (I : mw_I) (p : Nat) (f : Int32) (k : Nat) (z : Int32) : Int32 := if f < nI (k / 9) + nI (k % 9) then z else if I 48 (18 * p + k / 9) + I 48 (18 * p + 9 + k % 9) ≤ z then z else I 48 (18 * p + k / 9) + I 48 (18 * p + 9 + k % 9)
def mixedV (I : mw_I) (p : Nat) (f : Int32) : Int32 := lpN (mixedG I p f) 81 0
def sendsI (I : mw_I) (p o : Nat) (a : Int32) (h t : Nat) : mw_I := if p = 2 then mw_up I 52 o (I 52 o + a) else mw_up I 50 (210 * (2 * p + 2 + o) + h + t) (I 50 (210 * (2 * p + 2 + o) + h + t) + a)
theorem fr_snd {I : mw_I} {p o h t a : Nat} {x : Int32} (h1 : a ≠ 50) (h2 : a ≠ 52) : sendsI I p o x h t a = I a := by
  unfold sendsI
  split
  · exact mw_up_ne h2
  · exact mw_up_ne h1
set_option maxRecDepth 20000 in
theorem c_isIn (l : Launch) (v lo hi : Int32) (h : okR v lo hi) (y : mw_Y) (I : mw_I) (L : mw_L) : mw_CT l yX2_isIn (.code yX2_isIn cX2_isIn 3 (some .boolean)) 1 0 0 [.int v, .int lo, .int hi] (y, I, L) (.inl (some (.int 1), y, I, L)) := by
  refine mw_enter RX2 rfl (by decide +kernel) (mw_cat rfl) (Nat.le_of_ble_eq_true rfl) (fun X hX hl hE hT hnm => ?_)
  subst hl
  show mw_G X 0 [some (.int v), some (.int lo), some (.int hi)] [] y I L 0 0
  refine mw_iload_n hX dX2_isIn_0 rfl rfl ?_
  refine mw_iload_n hX dX2_isIn_1 rfl rfl ?_
  refine mw_icmp_lt hX (tgt := 14) dX2_isIn_2 (by decide) (fun h2 => ?_) (fun h2 => ?_)
  · exact absurd h2 h.1
  · refine mw_iload_n hX dX2_isIn_5 rfl rfl ?_
    refine mw_iload_n hX dX2_isIn_6 rfl rfl ?_
    refine mw_icmp_gt hX (tgt := 14) dX2_isIn_7 (by decide) (fun h7 => ?_) (fun h7 => ?_)
    · exact absurd h.2 (Int32.not_le.mpr h7)
    · refine mw_ic hX 1 dX2_isIn_10 rfl ?_
      refine mw_goto hX (tgt := 15) dX2_isIn_11 (by decide) ?_
      exact mw_zreturn hX hE dX2_isIn_15 (rfl) (by first | exact Or.inl rfl | exact Or.inr rfl) (by omega) (by omega)
set_option maxRecDepth 20000 in
theorem c_isInX (l : Launch) (v lo hi : Int32) (h : ¬ okR v lo hi) (y : mw_Y) (I : mw_I) (L : mw_L) : mw_CT l yX2_isIn (.code yX2_isIn cX2_isIn 3 (some .boolean)) 1 0 0 [.int v, .int lo, .int hi] (y, I, L) (.inl (some (.int 0), y, I, L)) := by
  refine mw_enter RX2 rfl (by decide +kernel) (mw_cat rfl) (Nat.le_of_ble_eq_true rfl) (fun X hX hl hE hT hnm => ?_)
  subst hl
  show mw_G X 0 [some (.int v), some (.int lo), some (.int hi)] [] y I L 0 0
  refine mw_iload_n hX dX2_isIn_0 rfl rfl ?_
  refine mw_iload_n hX dX2_isIn_1 rfl rfl ?_
  refine mw_icmp_lt hX (tgt := 14) dX2_isIn_2 (by decide) (fun h2 => ?_) (fun h2 => ?_)
  · refine mw_ic hX 0 dX2_isIn_14 rfl ?_
    exact mw_zreturn hX hE dX2_isIn_15 (rfl) (by first | exact Or.inl rfl | exact Or.inr rfl) (by omega) (by omega)
  · refine mw_iload_n hX dX2_isIn_5 rfl rfl ?_
    refine mw_iload_n hX dX2_isIn_6 rfl rfl ?_
    refine mw_icmp_gt hX (tgt := 14) dX2_isIn_7 (by decide) (fun h7 => ?_) (fun h7 => ?_)
    · refine mw_ic hX 0 dX2_isIn_14 rfl ?_
      exact mw_zreturn hX hE dX2_isIn_15 (rfl) (by first | exact Or.inl rfl | exact Or.inr rfl) (by omega) (by omega)
    · exact absurd ⟨h2, Int32.not_lt.mp h7⟩ h
set_option maxRecDepth 20000 in
theorem c_isPlant (l : Launch) (v : Int32) (h : okR v 0 2) (y : mw_Y) (I : mw_I) (L : mw_L) : mw_CT l yX2_isPlant (.code yX2_isPlant cX2_isPlant 1 (some .boolean)) 2 0 0 [.int v] (y, I, L) (.inl (some (.int 1), y, I, L)) := by
  refine mw_enter RX2 rfl (by decide +kernel) (mw_cat rfl) (Nat.le_of_ble_eq_true rfl) (fun X hX hl hE hT hnm => ?_)
  subst hl
  show mw_G X 0 [some (.int v)] [] y I L 0 0
  refine mw_iload_n hX dX2_isPlant_0 rfl rfl ?_
  refine mw_ic hX 0 dX2_isPlant_1 rfl ?_
  refine mw_ic hX 2 dX2_isPlant_2 rfl ?_
  refine mw_cS hX [_, _, _] ws_X2_68 dX2_isPlant_3 (c_isIn (mw_l X) v 0 2 h y I L) rfl (by omega) (by omega) (by omega) (Nat.le_of_ble_eq_true rfl) ?_
  exact mw_zreturn hX hE dX2_isPlant_6 (rfl) (by first | exact Or.inl rfl | exact Or.inr rfl) (by omega) (by omega)
set_option maxRecDepth 20000 in
theorem c_isPlantX (l : Launch) (v : Int32) (h : ¬ okR v 0 2) (y : mw_Y) (I : mw_I) (L : mw_L) : mw_CT l yX2_isPlant (.code yX2_isPlant cX2_isPlant 1 (some .boolean)) 2 0 0 [.int v] (y, I, L) (.inl (some (.int 0), y, I, L)) := by
  refine mw_enter RX2 rfl (by decide +kernel) (mw_cat rfl) (Nat.le_of_ble_eq_true rfl) (fun X hX hl hE hT hnm => ?_)
  subst hl
  show mw_G X 0 [some (.int v)] [] y I L 0 0
  refine mw_iload_n hX dX2_isPlant_0 rfl rfl ?_
  refine mw_ic hX 0 dX2_isPlant_1 rfl ?_
  refine mw_ic hX 2 dX2_isPlant_2 rfl ?_
  refine mw_cS hX [_, _, _] ws_X2_68 dX2_isPlant_3 (c_isInX (mw_l X) v 0 2 h y I L) rfl (by omega) (by omega) (by omega) (Nat.le_of_ble_eq_true rfl) ?_
  exact mw_zreturn hX hE dX2_isPlant_6 (rfl) (by first | exact Or.inl rfl | exact Or.inr rfl) (by omega) (by omega)
set_option maxRecDepth 20000 in
theorem c_isOwner (l : Launch) (v : Int32) (h : okR v 0 1) (y : mw_Y) (I : mw_I) (L : mw_L) : mw_CT l yX2_isOwner (.code yX2_isOwner cX2_isOwner 1 (some .boolean)) 2 0 0 [.int v] (y, I, L) (.inl (some (.int 1), y, I, L)) := by
  refine mw_enter RX2 rfl (by decide +kernel) (mw_cat rfl) (Nat.le_of_ble_eq_true rfl) (fun X hX hl hE hT hnm => ?_)
  subst hl
  show mw_G X 0 [some (.int v)] [] y I L 0 0
  refine mw_iload_n hX dX2_isOwner_0 rfl rfl ?_
  refine mw_ic hX 0 dX2_isOwner_1 rfl ?_
  refine mw_ic hX 1 dX2_isOwner_2 rfl ?_
  refine mw_cS hX [_, _, _] ws_X2_68 dX2_isOwner_3 (c_isIn (mw_l X) v 0 1 h y I L) rfl (by omega) (by omega) (by omega) (Nat.le_of_ble_eq_true rfl) ?_
  exact mw_zreturn hX hE dX2_isOwner_6 (rfl) (by first | exact Or.inl rfl | exact Or.inr rfl) (by omega) (by omega)
set_option maxRecDepth 20000 in
theorem c_isOwnerX (l : Launch) (v : Int32) (h : ¬ okR v 0 1) (y : mw_Y) (I : mw_I) (L : mw_L) : mw_CT l yX2_isOwner (.code yX2_isOwner cX2_isOwner 1 (some .boolean)) 2 0 0 [.int v] (y, I, L) (.inl (some (.int 0), y, I, L)) := by
  refine mw_enter RX2 rfl (by decide +kernel) (mw_cat rfl) (Nat.le_of_ble_eq_true rfl) (fun X hX hl hE hT hnm => ?_)
  subst hl
  show mw_G X 0 [some (.int v)] [] y I L 0 0
  refine mw_iload_n hX dX2_isOwner_0 rfl rfl ?_
  refine mw_ic hX 0 dX2_isOwner_1 rfl ?_
  refine mw_ic hX 1 dX2_isOwner_2 rfl ?_
  refine mw_cS hX [_, _, _] ws_X2_68 dX2_isOwner_3 (c_isInX (mw_l X) v 0 1 h y I L) rfl (by omega) (by omega) (by omega) (Nat.le_of_ble_eq_true rfl) ?_
  exact mw_zreturn hX hE dX2_isOwner_6 (rfl) (by first | exact Or.inl rfl | exact Or.inr rfl) (by omega) (by omega)
set_option maxRecDepth 20000 in
theorem c_m_thrown (l : Launch) (I : mw_I) (L : mw_L) : mw_CT l yX2_thrown (.code yX2_thrown cX2_thrown 1 (some .int)) 4 0 0 [.ref 40] (mw_Y0, I, L) (.inl (some (.int (I 40 19)), mw_Y0, I, L)) := by
  refine mw_enter RX2 rfl (by decide +kernel) (mw_cat rfl) (Nat.le_of_ble_eq_true rfl) (fun X hX hl hE hT hnm => ?_)
  subst hl
  show mw_G X 0 [some (.ref 40)] [] mw_Y0 I L 0 0
  refine mw_aload_n hX dX2_thrown_0 rfl rfl ?_
  refine mw_getI hX dX2_thrown_1 (mw_Yl (by decide)) mw_YM fl_X2_64 (by decide) (by decide) rfl ?_
  exact mw_ireturn hX hE dX2_thrown_4 (rfl) (by omega) (by omega)
set_option maxRecDepth 20000 in
theorem c_m_setPondX (l : Launch) (p a b c : Int32) (h : ¬ (okR p 0 2 ∧ okR a 1 200 ∧ okR b 0 100 ∧ okR c 0 5)) (I : mw_I) (L : mw_L) : mw_CT l yX2_setPond (.code yX2_setPond cX2_setPond 5 none) 4 0 0 [.ref 40, .int p, .int a, .int b, .int c] (mw_Y0, I, L) (.inl (none, mw_Y0, mw_up I 40 19 1, L)) := by
  refine mw_enter RX2 rfl (by decide +kernel) (mw_cat rfl) (Nat.le_of_ble_eq_true rfl) (fun X hX hl hE hT hnm => ?_)
  subst hl
  show mw_G X 0 [some (.ref 40), some (.int p), some (.int a), some (.int b), some (.int c)] [] mw_Y0 I L 0 0
  refine mw_aload_n hX dX2_setPond_0 rfl rfl ?_
  refine mw_iload_n hX dX2_setPond_1 rfl rfl ?_
  rcases Classical.em (okR p 0 2) with h2 | h2
  · refine mw_cS hX [_] ws_X2_72 dX2_setPond_2 (c_isPlant (mw_l X) p h2 mw_Y0 I L) rfl (by omega) (by omega) (by omega) (Nat.le_of_ble_eq_true rfl) ?_
    refine mw_if_eq hX (tgt := 43) dX2_setPond_5 (by decide) (fun h5 => ?_) (fun h5 => ?_)
    · exact absurd h5 (by decide)
    · refine mw_iload_n hX dX2_setPond_8 rfl rfl ?_
      refine mw_ic hX 1 dX2_setPond_9 rfl ?_
      refine mw_sp hX 200 dX2_setPond_10 rfl ?_
      rcases Classical.em (okR a 1 200) with h13 | h13
      · refine mw_cS hX [_, _, _] ws_X2_68 dX2_setPond_13 (c_isIn (mw_l X) a 1 200 h13 mw_Y0 I L) rfl (by omega) (by omega) (by omega) (Nat.le_of_ble_eq_true rfl) ?_
        refine mw_if_eq hX (tgt := 43) dX2_setPond_16 (by decide) (fun h16 => ?_) (fun h16 => ?_)
        · exact absurd h16 (by decide)
        · refine mw_iload_n hX dX2_setPond_19 rfl rfl ?_
          refine mw_ic hX 0 dX2_setPond_20 rfl ?_
          refine mw_bp hX 100 dX2_setPond_21 rfl ?_
          rcases Classical.em (okR b 0 100) with h23 | h23
          · refine mw_cS hX [_, _, _] ws_X2_68 dX2_setPond_23 (c_isIn (mw_l X) b 0 100 h23 mw_Y0 I L) rfl (by omega) (by omega) (by omega) (Nat.le_of_ble_eq_true rfl) ?_
            refine mw_if_eq hX (tgt := 43) dX2_setPond_26 (by decide) (fun h26 => ?_) (fun h26 => ?_)
            · exact absurd h26 (by decide)
            · refine mw_iload hX dX2_setPond_29 rfl ?_
              refine mw_ic hX 0 dX2_setPond_31 rfl ?_
              refine mw_ic hX 5 dX2_setPond_32 rfl ?_
              rcases Classical.em (okR c 0 5) with h33 | h33
              · refine mw_cS hX [_, _, _] ws_X2_68 dX2_setPond_33 (c_isIn (mw_l X) c 0 5 h33 mw_Y0 I L) rfl (by omega) (by omega) (by omega) (Nat.le_of_ble_eq_true rfl) ?_
                refine mw_if_eq hX (tgt := 43) dX2_setPond_36 (by decide) (fun h36 => ?_) (fun h36 => ?_)
                · exact absurd h36 (by decide)
                · exact absurd ⟨h2, h13, h23, h33⟩ h
              · refine mw_cS hX [_, _, _] ws_X2_68 dX2_setPond_33 (c_isInX (mw_l X) c 0 5 h33 mw_Y0 I L) rfl (by omega) (by omega) (by omega) (Nat.le_of_ble_eq_true rfl) ?_
                refine mw_if_eq hX (tgt := 43) dX2_setPond_36 (by decide) (fun h36 => ?_) (fun h36 => ?_)
                · refine mw_ic hX 1 dX2_setPond_43 rfl ?_
                  refine mw_putI hX dX2_setPond_44 (mw_Yl (by decide)) mw_YM fl_X2_64 (by decide) (by decide) rfl ?_
                  refine mw_aload_n hX dX2_setPond_47 rfl rfl ?_
                  refine mw_getI hX dX2_setPond_48 (mw_Yl (by decide)) mw_YM fl_X2_64 (by decide) (by decide) rfl ?_
                  refine mw_if_ne hX (tgt := 76) dX2_setPond_51 (by decide) (fun h51 => ?_) (fun h51 => ?_)
                  · exact mw_return hX hE dX2_setPond_76 (rfl) (by omega) (by omega)
                  · exact absurd h51 (by rw [mw_up_at]; decide)
                · exact absurd h36 (fun q => q rfl)
          · refine mw_cS hX [_, _, _] ws_X2_68 dX2_setPond_23 (c_isInX (mw_l X) b 0 100 h23 mw_Y0 I L) rfl (by omega) (by omega) (by omega) (Nat.le_of_ble_eq_true rfl) ?_
            refine mw_if_eq hX (tgt := 43) dX2_setPond_26 (by decide) (fun h26 => ?_) (fun h26 => ?_)
            · refine mw_ic hX 1 dX2_setPond_43 rfl ?_
              refine mw_putI hX dX2_setPond_44 (mw_Yl (by decide)) mw_YM fl_X2_64 (by decide) (by decide) rfl ?_
              refine mw_aload_n hX dX2_setPond_47 rfl rfl ?_
              refine mw_getI hX dX2_setPond_48 (mw_Yl (by decide)) mw_YM fl_X2_64 (by decide) (by decide) rfl ?_
              refine mw_if_ne hX (tgt := 76) dX2_setPond_51 (by decide) (fun h51 => ?_) (fun h51 => ?_)
              · exact mw_return hX hE dX2_setPond_76 (rfl) (by omega) (by omega)
              · exact absurd h51 (by rw [mw_up_at]; decide)
            · exact absurd h26 (fun q => q rfl)
      · refine mw_cS hX [_, _, _] ws_X2_68 dX2_setPond_13 (c_isInX (mw_l X) a 1 200 h13 mw_Y0 I L) rfl (by omega) (by omega) (by omega) (Nat.le_of_ble_eq_true rfl) ?_
        refine mw_if_eq hX (tgt := 43) dX2_setPond_16 (by decide) (fun h16 => ?_) (fun h16 => ?_)
        · refine mw_ic hX 1 dX2_setPond_43 rfl ?_
          refine mw_putI hX dX2_setPond_44 (mw_Yl (by decide)) mw_YM fl_X2_64 (by decide) (by decide) rfl ?_
          refine mw_aload_n hX dX2_setPond_47 rfl rfl ?_
          refine mw_getI hX dX2_setPond_48 (mw_Yl (by decide)) mw_YM fl_X2_64 (by decide) (by decide) rfl ?_
          refine mw_if_ne hX (tgt := 76) dX2_setPond_51 (by decide) (fun h51 => ?_) (fun h51 => ?_)
          · exact mw_return hX hE dX2_setPond_76 (rfl) (by omega) (by omega)
          · exact absurd h51 (by rw [mw_up_at]; decide)
        · exact absurd h16 (fun q => q rfl)
  · refine mw_cS hX [_] ws_X2_72 dX2_setPond_2 (c_isPlantX (mw_l X) p h2 mw_Y0 I L) rfl (by omega) (by omega) (by omega) (Nat.le_of_ble_eq_true rfl) ?_
    refine mw_if_eq hX (tgt := 43) dX2_setPond_5 (by decide) (fun h5 => ?_) (fun h5 => ?_)
    · refine mw_ic hX 1 dX2_setPond_43 rfl ?_
      refine mw_putI hX dX2_setPond_44 (mw_Yl (by decide)) mw_YM fl_X2_64 (by decide) (by decide) rfl ?_
      refine mw_aload_n hX dX2_setPond_47 rfl rfl ?_
      refine mw_getI hX dX2_setPond_48 (mw_Yl (by decide)) mw_YM fl_X2_64 (by decide) (by decide) rfl ?_
      refine mw_if_ne hX (tgt := 76) dX2_setPond_51 (by decide) (fun h51 => ?_) (fun h51 => ?_)
      · exact mw_return hX hE dX2_setPond_76 (rfl) (by omega) (by omega)
      · exact absurd h51 (by rw [mw_up_at]; decide)
    · exact absurd h5 (fun q => q rfl)
set_option maxRecDepth 20000 in
theorem c_m_setPond (l : Launch) (i : Nat) (hi : i < 3) (a b c : Int32) (ha : okR a 1 200) (hb : okR b 0 100) (hc : okR c 0 5) (I : mw_I) (L : mw_L) : mw_CT l yX2_setPond (.code yX2_setPond cX2_setPond 5 none) 4 0 0 [.ref 40, .int (nI i), .int a, .int b, .int c] (mw_Y0, I, L) (.inl (none, mw_Y0, mw_up (mw_up (mw_up (mw_up I 40 19 0) 41 i a) 42 i b) 43 i c, L)) := by
  refine mw_enter RX2 rfl (by decide +kernel) (mw_cat rfl) (Nat.le_of_ble_eq_true rfl) (fun X hX hl hE hT hnm => ?_)
  subst hl
  show mw_G X 0 [some (.ref 40), some (.int (nI i)), some (.int a), some (.int b), some (.int c)] [] mw_Y0 I L 0 0
  refine mw_aload_n hX dX2_setPond_0 rfl rfl ?_
  refine mw_iload_n hX dX2_setPond_1 rfl rfl ?_
  refine mw_cS hX [_] ws_X2_72 dX2_setPond_2 (c_isPlant (mw_l X) (nI i) (okR_nI (n := 2) (by decide) hi) mw_Y0 I L) rfl (by omega) (by omega) (by omega) (Nat.le_of_ble_eq_true rfl) ?_
  refine mw_if_eq hX (tgt := 43) dX2_setPond_5 (by decide) (fun h5 => ?_) (fun h5 => ?_)
  · exact absurd h5 (by decide)
  · refine mw_iload_n hX dX2_setPond_8 rfl rfl ?_
    refine mw_ic hX 1 dX2_setPond_9 rfl ?_
    refine mw_sp hX 200 dX2_setPond_10 rfl ?_
    refine mw_cS hX [_, _, _] ws_X2_68 dX2_setPond_13 (c_isIn (mw_l X) a 1 200 ha mw_Y0 I L) rfl (by omega) (by omega) (by omega) (Nat.le_of_ble_eq_true rfl) ?_
    refine mw_if_eq hX (tgt := 43) dX2_setPond_16 (by decide) (fun h16 => ?_) (fun h16 => ?_)
    · exact absurd h16 (by decide)
    · refine mw_iload_n hX dX2_setPond_19 rfl rfl ?_
      refine mw_ic hX 0 dX2_setPond_20 rfl ?_
      refine mw_bp hX 100 dX2_setPond_21 rfl ?_
      refine mw_cS hX [_, _, _] ws_X2_68 dX2_setPond_23 (c_isIn (mw_l X) b 0 100 hb mw_Y0 I L) rfl (by omega) (by omega) (by omega) (Nat.le_of_ble_eq_true rfl) ?_
      refine mw_if_eq hX (tgt := 43) dX2_setPond_26 (by decide) (fun h26 => ?_) (fun h26 => ?_)
      · exact absurd h26 (by decide)
      · refine mw_iload hX dX2_setPond_29 rfl ?_
        refine mw_ic hX 0 dX2_setPond_31 rfl ?_
        refine mw_ic hX 5 dX2_setPond_32 rfl ?_
        refine mw_cS hX [_, _, _] ws_X2_68 dX2_setPond_33 (c_isIn (mw_l X) c 0 5 hc mw_Y0 I L) rfl (by omega) (by omega) (by omega) (Nat.le_of_ble_eq_true rfl) ?_
        refine mw_if_eq hX (tgt := 43) dX2_setPond_36 (by decide) (fun h36 => ?_) (fun h36 => ?_)
        · exact absurd h36 (by decide)
        · refine mw_ic hX 0 dX2_setPond_39 rfl ?_
          refine mw_goto hX (tgt := 44) dX2_setPond_40 (by decide) ?_
          refine mw_putI hX dX2_setPond_44 (mw_Yl (by decide)) mw_YM fl_X2_64 (by decide) (by decide) rfl ?_
          refine mw_aload_n hX dX2_setPond_47 rfl rfl ?_
          refine mw_getI hX dX2_setPond_48 (mw_Yl (by decide)) mw_YM fl_X2_64 (by decide) (by decide) rfl ?_
          refine mw_if_ne hX (tgt := 76) dX2_setPond_51 (by decide) (fun h51 => ?_) (fun h51 => ?_)
          · exact absurd mw_t0 h51
          · refine mw_aload_n hX dX2_setPond_54 rfl rfl ?_
            refine mw_getR hX (r := 41) dX2_setPond_55 (mw_Yl (by decide)) mw_YM fl_X2_7 (by decide) (by decide) rfl rfl ?_
            refine mw_iload_n hX dX2_setPond_58 rfl rfl ?_
            refine mw_iload_n hX dX2_setPond_59 rfl rfl ?_
            refine mw_iastore hX (j := i) dX2_setPond_60 (mw_Yl (by decide)) rfl rfl (by omega) (by decide) ?_
            refine mw_aload_n hX dX2_setPond_61 rfl rfl ?_
            refine mw_getR hX (r := 42) dX2_setPond_62 (mw_Yl (by decide)) mw_YM fl_X2_13 (by decide) (by decide) rfl rfl ?_
            refine mw_iload_n hX dX2_setPond_65 rfl rfl ?_
            refine mw_iload_n hX dX2_setPond_66 rfl rfl ?_
            refine mw_iastore hX (j := i) dX2_setPond_67 (mw_Yl (by decide)) rfl rfl (by omega) (by decide) ?_
            refine mw_aload_n hX dX2_setPond_68 rfl rfl ?_
            refine mw_getR hX (r := 43) dX2_setPond_69 (mw_Yl (by decide)) mw_YM fl_X2_16 (by decide) (by decide) rfl rfl ?_
            refine mw_iload_n hX dX2_setPond_72 rfl rfl ?_
            refine mw_iload hX dX2_setPond_73 rfl ?_
            refine mw_iastore hX (j := i) dX2_setPond_75 (mw_Yl (by decide)) rfl rfl (by omega) (by decide) ?_
            exact mw_return hX hE dX2_setPond_76 (rfl) (by omega) (by omega)
set_option maxRecDepth 20000 in
theorem c_m_setInflowX (l : Launch) (p a b : Int32) (h : ¬ (okR p 0 2 ∧ okR a 0 50 ∧ okR b 0 100)) (I : mw_I) (L : mw_L) : mw_CT l yX2_setInflow (.code yX2_setInflow cX2_setInflow 5 (some .int)) 4 0 0 [.ref 40, .int p, .int a, .int b] (mw_Y0, I, L) (.inl (some (.int 0), mw_Y0, mw_up I 40 19 1, L)) := by
  refine mw_enter RX2 rfl (by decide +kernel) (mw_cat rfl) (Nat.le_of_ble_eq_true rfl) (fun X hX hl hE hT hnm => ?_)
  subst hl
  show mw_G X 0 [some (.ref 40), some (.int p), some (.int a), some (.int b), none] [] mw_Y0 I L 0 0
  refine mw_aload_n hX dX2_setInflow_0 rfl rfl ?_
  refine mw_iload_n hX dX2_setInflow_1 rfl rfl ?_
  rcases Classical.em (okR p 0 2) with h2 | h2
  · refine mw_cS hX [_] ws_X2_72 dX2_setInflow_2 (c_isPlant (mw_l X) p h2 mw_Y0 I L) rfl (by omega) (by omega) (by omega) (Nat.le_of_ble_eq_true rfl) ?_
    refine mw_if_eq hX (tgt := 32) dX2_setInflow_5 (by decide) (fun h5 => ?_) (fun h5 => ?_)
    · exact absurd h5 (by decide)
    · refine mw_iload_n hX dX2_setInflow_8 rfl rfl ?_
      refine mw_ic hX 0 dX2_setInflow_9 rfl ?_
      refine mw_bp hX 50 dX2_setInflow_10 rfl ?_
      rcases Classical.em (okR a 0 50) with h12 | h12
      · refine mw_cS hX [_, _, _] ws_X2_68 dX2_setInflow_12 (c_isIn (mw_l X) a 0 50 h12 mw_Y0 I L) rfl (by omega) (by omega) (by omega) (Nat.le_of_ble_eq_true rfl) ?_
        refine mw_if_eq hX (tgt := 32) dX2_setInflow_15 (by decide) (fun h15 => ?_) (fun h15 => ?_)
        · exact absurd h15 (by decide)
        · refine mw_iload_n hX dX2_setInflow_18 rfl rfl ?_
          refine mw_ic hX 0 dX2_setInflow_19 rfl ?_
          refine mw_bp hX 100 dX2_setInflow_20 rfl ?_
          rcases Classical.em (okR b 0 100) with h22 | h22
          · refine mw_cS hX [_, _, _] ws_X2_68 dX2_setInflow_22 (c_isIn (mw_l X) b 0 100 h22 mw_Y0 I L) rfl (by omega) (by omega) (by omega) (Nat.le_of_ble_eq_true rfl) ?_
            refine mw_if_eq hX (tgt := 32) dX2_setInflow_25 (by decide) (fun h25 => ?_) (fun h25 => ?_)
            · exact absurd h25 (by decide)
            · exact absurd ⟨h2, h12, h22⟩ h
          · refine mw_cS hX [_, _, _] ws_X2_68 dX2_setInflow_22 (c_isInX (mw_l X) b 0 100 h22 mw_Y0 I L) rfl (by omega) (by omega) (by omega) (Nat.le_of_ble_eq_true rfl) ?_
            refine mw_if_eq hX (tgt := 32) dX2_setInflow_25 (by decide) (fun h25 => ?_) (fun h25 => ?_)
            · refine mw_ic hX 1 dX2_setInflow_32 rfl ?_
              refine mw_putI hX dX2_setInflow_33 (mw_Yl (by decide)) mw_YM fl_X2_64 (by decide) (by decide) rfl ?_
              refine mw_aload_n hX dX2_setInflow_36 rfl rfl ?_
              refine mw_getI hX dX2_setInflow_37 (mw_Yl (by decide)) mw_YM fl_X2_64 (by decide) (by decide) rfl ?_
              refine mw_if_le hX (tgt := 45) dX2_setInflow_40 (by decide) (fun h40 => ?_) (fun h40 => ?_)
              · exact absurd h40 (by rw [mw_up_at]; decide)
              · refine mw_ic hX 0 dX2_setInflow_43 rfl ?_
                exact mw_ireturn hX hE dX2_setInflow_44 (rfl) (by omega) (by omega)
            · exact absurd h25 (fun q => q rfl)
      · refine mw_cS hX [_, _, _] ws_X2_68 dX2_setInflow_12 (c_isInX (mw_l X) a 0 50 h12 mw_Y0 I L) rfl (by omega) (by omega) (by omega) (Nat.le_of_ble_eq_true rfl) ?_
        refine mw_if_eq hX (tgt := 32) dX2_setInflow_15 (by decide) (fun h15 => ?_) (fun h15 => ?_)
        · refine mw_ic hX 1 dX2_setInflow_32 rfl ?_
          refine mw_putI hX dX2_setInflow_33 (mw_Yl (by decide)) mw_YM fl_X2_64 (by decide) (by decide) rfl ?_
          refine mw_aload_n hX dX2_setInflow_36 rfl rfl ?_
          refine mw_getI hX dX2_setInflow_37 (mw_Yl (by decide)) mw_YM fl_X2_64 (by decide) (by decide) rfl ?_
          refine mw_if_le hX (tgt := 45) dX2_setInflow_40 (by decide) (fun h40 => ?_) (fun h40 => ?_)
          · exact absurd h40 (by rw [mw_up_at]; decide)
          · refine mw_ic hX 0 dX2_setInflow_43 rfl ?_
            exact mw_ireturn hX hE dX2_setInflow_44 (rfl) (by omega) (by omega)
        · exact absurd h15 (fun q => q rfl)
  · refine mw_cS hX [_] ws_X2_72 dX2_setInflow_2 (c_isPlantX (mw_l X) p h2 mw_Y0 I L) rfl (by omega) (by omega) (by omega) (Nat.le_of_ble_eq_true rfl) ?_
    refine mw_if_eq hX (tgt := 32) dX2_setInflow_5 (by decide) (fun h5 => ?_) (fun h5 => ?_)
    · refine mw_ic hX 1 dX2_setInflow_32 rfl ?_
      refine mw_putI hX dX2_setInflow_33 (mw_Yl (by decide)) mw_YM fl_X2_64 (by decide) (by decide) rfl ?_
      refine mw_aload_n hX dX2_setInflow_36 rfl rfl ?_
      refine mw_getI hX dX2_setInflow_37 (mw_Yl (by decide)) mw_YM fl_X2_64 (by decide) (by decide) rfl ?_
      refine mw_if_le hX (tgt := 45) dX2_setInflow_40 (by decide) (fun h40 => ?_) (fun h40 => ?_)
      · exact absurd h40 (by rw [mw_up_at]; decide)
      · refine mw_ic hX 0 dX2_setInflow_43 rfl ?_
        exact mw_ireturn hX hE dX2_setInflow_44 (rfl) (by omega) (by omega)
    · exact absurd h5 (fun q => q rfl)
set_option maxRecDepth 20000 in
theorem c_m_setInflow (l : Launch) (i : Nat) (hi : i < 3) (a b : Int32) (ha : okR a 0 50) (hb : okR b 0 100) (I : mw_I) (L : mw_L) : mw_CT l yX2_setInflow (.code yX2_setInflow cX2_setInflow 5 (some .int)) 4 0 0 [.ref 40, .int (nI i), .int a, .int b] (mw_Y0, I, L) (.inl (some (.int ((mw_up I 40 19 0) 44 i)), mw_Y0, mw_up (mw_up (mw_up I 40 19 0) 44 i a) 45 i b, L)) := by
  refine mw_enter RX2 rfl (by decide +kernel) (mw_cat rfl) (Nat.le_of_ble_eq_true rfl) (fun X hX hl hE hT hnm => ?_)
  subst hl
  show mw_G X 0 [some (.ref 40), some (.int (nI i)), some (.int a), some (.int b), none] [] mw_Y0 I L 0 0
  refine mw_aload_n hX dX2_setInflow_0 rfl rfl ?_
  refine mw_iload_n hX dX2_setInflow_1 rfl rfl ?_
  refine mw_cS hX [_] ws_X2_72 dX2_setInflow_2 (c_isPlant (mw_l X) (nI i) (okR_nI (n := 2) (by decide) hi) mw_Y0 I L) rfl (by omega) (by omega) (by omega) (Nat.le_of_ble_eq_true rfl) ?_
  refine mw_if_eq hX (tgt := 32) dX2_setInflow_5 (by decide) (fun h5 => ?_) (fun h5 => ?_)
  · exact absurd h5 (by decide)
  · refine mw_iload_n hX dX2_setInflow_8 rfl rfl ?_
    refine mw_ic hX 0 dX2_setInflow_9 rfl ?_
    refine mw_bp hX 50 dX2_setInflow_10 rfl ?_
    refine mw_cS hX [_, _, _] ws_X2_68 dX2_setInflow_12 (c_isIn (mw_l X) a 0 50 ha mw_Y0 I L) rfl (by omega) (by omega) (by omega) (Nat.le_of_ble_eq_true rfl) ?_
    refine mw_if_eq hX (tgt := 32) dX2_setInflow_15 (by decide) (fun h15 => ?_) (fun h15 => ?_)
    · exact absurd h15 (by decide)
    · refine mw_iload_n hX dX2_setInflow_18 rfl rfl ?_
      refine mw_ic hX 0 dX2_setInflow_19 rfl ?_
      refine mw_bp hX 100 dX2_setInflow_20 rfl ?_
      refine mw_cS hX [_, _, _] ws_X2_68 dX2_setInflow_22 (c_isIn (mw_l X) b 0 100 hb mw_Y0 I L) rfl (by omega) (by omega) (by omega) (Nat.le_of_ble_eq_true rfl) ?_
      refine mw_if_eq hX (tgt := 32) dX2_setInflow_25 (by decide) (fun h25 => ?_) (fun h25 => ?_)
      · exact absurd h25 (by decide)
      · refine mw_ic hX 0 dX2_setInflow_28 rfl ?_
        refine mw_goto hX (tgt := 33) dX2_setInflow_29 (by decide) ?_
        refine mw_putI hX dX2_setInflow_33 (mw_Yl (by decide)) mw_YM fl_X2_64 (by decide) (by decide) rfl ?_
        refine mw_aload_n hX dX2_setInflow_36 rfl rfl ?_
        refine mw_getI hX dX2_setInflow_37 (mw_Yl (by decide)) mw_YM fl_X2_64 (by decide) (by decide) rfl ?_
        refine mw_if_le hX (tgt := 45) dX2_setInflow_40 (by decide) (fun h40 => ?_) (fun h40 => ?_)
        · refine mw_aload_n hX dX2_setInflow_45 rfl rfl ?_
          refine mw_getR hX (r := 44) dX2_setInflow_46 (mw_Yl (by decide)) mw_YM fl_X2_19 (by decide) (by decide) rfl rfl ?_
          refine mw_iload_n hX dX2_setInflow_49 rfl rfl ?_
          refine mw_iaload hX (j := i) dX2_setInflow_50 (mw_Yl (by decide)) rfl rfl (by omega) (by decide) ?_
          refine mw_istore hX dX2_setInflow_51 (Nat.le_of_ble_eq_true rfl) ?_
          dsimp only [List.set]
          refine mw_aload_n hX dX2_setInflow_53 rfl rfl ?_
          refine mw_getR hX (r := 44) dX2_setInflow_54 (mw_Yl (by decide)) mw_YM fl_X2_19 (by decide) (by decide) rfl rfl ?_
          refine mw_iload_n hX dX2_setInflow_57 rfl rfl ?_
          refine mw_iload_n hX dX2_setInflow_58 rfl rfl ?_
          refine mw_iastore hX (j := i) dX2_setInflow_59 (mw_Yl (by decide)) rfl rfl (by omega) (by decide) ?_
          refine mw_aload_n hX dX2_setInflow_60 rfl rfl ?_
          refine mw_getR hX (r := 45) dX2_setInflow_61 (mw_Yl (by decide)) mw_YM fl_X2_22 (by decide) (by decide) rfl rfl ?_
          refine mw_iload_n hX dX2_setInflow_64 rfl rfl ?_
          refine mw_iload_n hX dX2_setInflow_65 rfl rfl ?_
          refine mw_iastore hX (j := i) dX2_setInflow_66 (mw_Yl (by decide)) rfl rfl (by omega) (by decide) ?_
          refine mw_iload hX dX2_setInflow_67 rfl ?_
          exact mw_ireturn hX hE dX2_setInflow_69 (rfl) (by omega) (by omega)
        · exact absurd (by rw [mw_t0]; decide) h40
set_option maxRecDepth 20000 in
theorem c_m_setMinimumX (l : Launch) (p a : Int32) (h : ¬ (okR p 0 2 ∧ okR a 0 20)) (I : mw_I) (L : mw_L) : mw_CT l yX2_setMinimum (.code yX2_setMinimum cX2_setMinimum 4 (some .int)) 4 0 0 [.ref 40, .int p, .int a] (mw_Y0, I, L) (.inl (some (.int 0), mw_Y0, mw_up I 40 19 1, L)) := by
  refine mw_enter RX2 rfl (by decide +kernel) (mw_cat rfl) (Nat.le_of_ble_eq_true rfl) (fun X hX hl hE hT hnm => ?_)
  subst hl
  show mw_G X 0 [some (.ref 40), some (.int p), some (.int a), none] [] mw_Y0 I L 0 0
  refine mw_aload_n hX dX2_setMinimum_0 rfl rfl ?_
  refine mw_iload_n hX dX2_setMinimum_1 rfl rfl ?_
  rcases Classical.em (okR p 0 2) with h2 | h2
  · refine mw_cS hX [_] ws_X2_72 dX2_setMinimum_2 (c_isPlant (mw_l X) p h2 mw_Y0 I L) rfl (by omega) (by omega) (by omega) (Nat.le_of_ble_eq_true rfl) ?_
    refine mw_if_eq hX (tgt := 22) dX2_setMinimum_5 (by decide) (fun h5 => ?_) (fun h5 => ?_)
    · exact absurd h5 (by decide)
    · refine mw_iload_n hX dX2_setMinimum_8 rfl rfl ?_
      refine mw_ic hX 0 dX2_setMinimum_9 rfl ?_
      refine mw_bp hX 20 dX2_setMinimum_10 rfl ?_
      rcases Classical.em (okR a 0 20) with h12 | h12
      · refine mw_cS hX [_, _, _] ws_X2_68 dX2_setMinimum_12 (c_isIn (mw_l X) a 0 20 h12 mw_Y0 I L) rfl (by omega) (by omega) (by omega) (Nat.le_of_ble_eq_true rfl) ?_
        refine mw_if_eq hX (tgt := 22) dX2_setMinimum_15 (by decide) (fun h15 => ?_) (fun h15 => ?_)
        · exact absurd h15 (by decide)
        · exact absurd ⟨h2, h12⟩ h
      · refine mw_cS hX [_, _, _] ws_X2_68 dX2_setMinimum_12 (c_isInX (mw_l X) a 0 20 h12 mw_Y0 I L) rfl (by omega) (by omega) (by omega) (Nat.le_of_ble_eq_true rfl) ?_
        refine mw_if_eq hX (tgt := 22) dX2_setMinimum_15 (by decide) (fun h15 => ?_) (fun h15 => ?_)
        · refine mw_ic hX 1 dX2_setMinimum_22 rfl ?_
          refine mw_putI hX dX2_setMinimum_23 (mw_Yl (by decide)) mw_YM fl_X2_64 (by decide) (by decide) rfl ?_
          refine mw_aload_n hX dX2_setMinimum_26 rfl rfl ?_
          refine mw_getI hX dX2_setMinimum_27 (mw_Yl (by decide)) mw_YM fl_X2_64 (by decide) (by decide) rfl ?_
          refine mw_if_le hX (tgt := 35) dX2_setMinimum_30 (by decide) (fun h30 => ?_) (fun h30 => ?_)
          · exact absurd h30 (by rw [mw_up_at]; decide)
          · refine mw_ic hX 0 dX2_setMinimum_33 rfl ?_
            exact mw_ireturn hX hE dX2_setMinimum_34 (rfl) (by omega) (by omega)
        · exact absurd h15 (fun q => q rfl)
  · refine mw_cS hX [_] ws_X2_72 dX2_setMinimum_2 (c_isPlantX (mw_l X) p h2 mw_Y0 I L) rfl (by omega) (by omega) (by omega) (Nat.le_of_ble_eq_true rfl) ?_
    refine mw_if_eq hX (tgt := 22) dX2_setMinimum_5 (by decide) (fun h5 => ?_) (fun h5 => ?_)
    · refine mw_ic hX 1 dX2_setMinimum_22 rfl ?_
      refine mw_putI hX dX2_setMinimum_23 (mw_Yl (by decide)) mw_YM fl_X2_64 (by decide) (by decide) rfl ?_
      refine mw_aload_n hX dX2_setMinimum_26 rfl rfl ?_
      refine mw_getI hX dX2_setMinimum_27 (mw_Yl (by decide)) mw_YM fl_X2_64 (by decide) (by decide) rfl ?_
      refine mw_if_le hX (tgt := 35) dX2_setMinimum_30 (by decide) (fun h30 => ?_) (fun h30 => ?_)
      · exact absurd h30 (by rw [mw_up_at]; decide)
      · refine mw_ic hX 0 dX2_setMinimum_33 rfl ?_
        exact mw_ireturn hX hE dX2_setMinimum_34 (rfl) (by omega) (by omega)
    · exact absurd h5 (fun q => q rfl)
set_option maxRecDepth 20000 in
theorem c_m_setMinimum (l : Launch) (i : Nat) (hi : i < 3) (a : Int32) (ha : okR a 0 20) (I : mw_I) (L : mw_L) : mw_CT l yX2_setMinimum (.code yX2_setMinimum cX2_setMinimum 4 (some .int)) 4 0 0 [.ref 40, .int (nI i), .int a] (mw_Y0, I, L) (.inl (some (.int ((mw_up I 40 19 0) 46 i)), mw_Y0, mw_up (mw_up I 40 19 0) 46 i a, L)) := by
  refine mw_enter RX2 rfl (by decide +kernel) (mw_cat rfl) (Nat.le_of_ble_eq_true rfl) (fun X hX hl hE hT hnm => ?_)
  subst hl
  show mw_G X 0 [some (.ref 40), some (.int (nI i)), some (.int a), none] [] mw_Y0 I L 0 0
  refine mw_aload_n hX dX2_setMinimum_0 rfl rfl ?_
  refine mw_iload_n hX dX2_setMinimum_1 rfl rfl ?_
  refine mw_cS hX [_] ws_X2_72 dX2_setMinimum_2 (c_isPlant (mw_l X) (nI i) (okR_nI (n := 2) (by decide) hi) mw_Y0 I L) rfl (by omega) (by omega) (by omega) (Nat.le_of_ble_eq_true rfl) ?_
  refine mw_if_eq hX (tgt := 22) dX2_setMinimum_5 (by decide) (fun h5 => ?_) (fun h5 => ?_)
  · exact absurd h5 (by decide)
  · refine mw_iload_n hX dX2_setMinimum_8 rfl rfl ?_
    refine mw_ic hX 0 dX2_setMinimum_9 rfl ?_
    refine mw_bp hX 20 dX2_setMinimum_10 rfl ?_
    refine mw_cS hX [_, _, _] ws_X2_68 dX2_setMinimum_12 (c_isIn (mw_l X) a 0 20 ha mw_Y0 I L) rfl (by omega) (by omega) (by omega) (Nat.le_of_ble_eq_true rfl) ?_
    refine mw_if_eq hX (tgt := 22) dX2_setMinimum_15 (by decide) (fun h15 => ?_) (fun h15 => ?_)
    · exact absurd h15 (by decide)
    · refine mw_ic hX 0 dX2_setMinimum_18 rfl ?_
      refine mw_goto hX (tgt := 23) dX2_setMinimum_19 (by decide) ?_
      refine mw_putI hX dX2_setMinimum_23 (mw_Yl (by decide)) mw_YM fl_X2_64 (by decide) (by decide) rfl ?_
      refine mw_aload_n hX dX2_setMinimum_26 rfl rfl ?_
      refine mw_getI hX dX2_setMinimum_27 (mw_Yl (by decide)) mw_YM fl_X2_64 (by decide) (by decide) rfl ?_
      refine mw_if_le hX (tgt := 35) dX2_setMinimum_30 (by decide) (fun h30 => ?_) (fun h30 => ?_)
      · refine mw_aload_n hX dX2_setMinimum_35 rfl rfl ?_
        refine mw_getR hX (r := 46) dX2_setMinimum_36 (mw_Yl (by decide)) mw_YM fl_X2_25 (by decide) (by decide) rfl rfl ?_
        refine mw_iload_n hX dX2_setMinimum_39 rfl rfl ?_
        refine mw_iaload hX (j := i) dX2_setMinimum_40 (mw_Yl (by decide)) rfl rfl (by omega) (by decide) ?_
        refine mw_istore_n hX dX2_setMinimum_41 rfl (Nat.le_of_ble_eq_true rfl) ?_
        dsimp only [List.set]
        refine mw_aload_n hX dX2_setMinimum_42 rfl rfl ?_
        refine mw_getR hX (r := 46) dX2_setMinimum_43 (mw_Yl (by decide)) mw_YM fl_X2_25 (by decide) (by decide) rfl rfl ?_
        refine mw_iload_n hX dX2_setMinimum_46 rfl rfl ?_
        refine mw_iload_n hX dX2_setMinimum_47 rfl rfl ?_
        refine mw_iastore hX (j := i) dX2_setMinimum_48 (mw_Yl (by decide)) rfl rfl (by omega) (by decide) ?_
        refine mw_iload_n hX dX2_setMinimum_49 rfl rfl ?_
        exact mw_ireturn hX hE dX2_setMinimum_50 (rfl) (by omega) (by omega)
      · exact absurd (by rw [mw_t0]; decide) h30
set_option maxRecDepth 20000 in
theorem c_m_orderX (l : Launch) (p o a : Int32) (h : ¬ (okR p 0 2 ∧ okR o 0 1 ∧ okR a 0 30)) (I : mw_I) (L : mw_L) : mw_CT l yX2_order (.code yX2_order cX2_order 5 (some .int)) 4 0 0 [.ref 40, .int p, .int o, .int a] (mw_Y0, I, L) (.inl (some (.int 0), mw_Y0, mw_up I 40 19 1, L)) := by
  refine mw_enter RX2 rfl (by decide +kernel) (mw_cat rfl) (Nat.le_of_ble_eq_true rfl) (fun X hX hl hE hT hnm => ?_)
  subst hl
  show mw_G X 0 [some (.ref 40), some (.int p), some (.int o), some (.int a), none] [] mw_Y0 I L 0 0
  refine mw_aload_n hX dX2_order_0 rfl rfl ?_
  refine mw_iload_n hX dX2_order_1 rfl rfl ?_
  rcases Classical.em (okR p 0 2) with h2 | h2
  · refine mw_cS hX [_] ws_X2_72 dX2_order_2 (c_isPlant (mw_l X) p h2 mw_Y0 I L) rfl (by omega) (by omega) (by omega) (Nat.le_of_ble_eq_true rfl) ?_
    refine mw_if_eq hX (tgt := 29) dX2_order_5 (by decide) (fun h5 => ?_) (fun h5 => ?_)
    · exact absurd h5 (by decide)
    · refine mw_iload_n hX dX2_order_8 rfl rfl ?_
      rcases Classical.em (okR o 0 1) with h9 | h9
      · refine mw_cS hX [_] ws_X2_76 dX2_order_9 (c_isOwner (mw_l X) o h9 mw_Y0 I L) rfl (by omega) (by omega) (by omega) (Nat.le_of_ble_eq_true rfl) ?_
        refine mw_if_eq hX (tgt := 29) dX2_order_12 (by decide) (fun h12 => ?_) (fun h12 => ?_)
        · exact absurd h12 (by decide)
        · refine mw_iload_n hX dX2_order_15 rfl rfl ?_
          refine mw_ic hX 0 dX2_order_16 rfl ?_
          refine mw_bp hX 30 dX2_order_17 rfl ?_
          rcases Classical.em (okR a 0 30) with h19 | h19
          · refine mw_cS hX [_, _, _] ws_X2_68 dX2_order_19 (c_isIn (mw_l X) a 0 30 h19 mw_Y0 I L) rfl (by omega) (by omega) (by omega) (Nat.le_of_ble_eq_true rfl) ?_
            refine mw_if_eq hX (tgt := 29) dX2_order_22 (by decide) (fun h22 => ?_) (fun h22 => ?_)
            · exact absurd h22 (by decide)
            · exact absurd ⟨h2, h9, h19⟩ h
          · refine mw_cS hX [_, _, _] ws_X2_68 dX2_order_19 (c_isInX (mw_l X) a 0 30 h19 mw_Y0 I L) rfl (by omega) (by omega) (by omega) (Nat.le_of_ble_eq_true rfl) ?_
            refine mw_if_eq hX (tgt := 29) dX2_order_22 (by decide) (fun h22 => ?_) (fun h22 => ?_)
            · refine mw_ic hX 1 dX2_order_29 rfl ?_
              refine mw_putI hX dX2_order_30 (mw_Yl (by decide)) mw_YM fl_X2_64 (by decide) (by decide) rfl ?_
              refine mw_aload_n hX dX2_order_33 rfl rfl ?_
              refine mw_getI hX dX2_order_34 (mw_Yl (by decide)) mw_YM fl_X2_64 (by decide) (by decide) rfl ?_
              refine mw_if_le hX (tgt := 42) dX2_order_37 (by decide) (fun h37 => ?_) (fun h37 => ?_)
              · exact absurd h37 (by rw [mw_up_at]; decide)
              · refine mw_ic hX 0 dX2_order_40 rfl ?_
                exact mw_ireturn hX hE dX2_order_41 (rfl) (by omega) (by omega)
            · exact absurd h22 (fun q => q rfl)
      · refine mw_cS hX [_] ws_X2_76 dX2_order_9 (c_isOwnerX (mw_l X) o h9 mw_Y0 I L) rfl (by omega) (by omega) (by omega) (Nat.le_of_ble_eq_true rfl) ?_
        refine mw_if_eq hX (tgt := 29) dX2_order_12 (by decide) (fun h12 => ?_) (fun h12 => ?_)
        · refine mw_ic hX 1 dX2_order_29 rfl ?_
          refine mw_putI hX dX2_order_30 (mw_Yl (by decide)) mw_YM fl_X2_64 (by decide) (by decide) rfl ?_
          refine mw_aload_n hX dX2_order_33 rfl rfl ?_
          refine mw_getI hX dX2_order_34 (mw_Yl (by decide)) mw_YM fl_X2_64 (by decide) (by decide) rfl ?_
          refine mw_if_le hX (tgt := 42) dX2_order_37 (by decide) (fun h37 => ?_) (fun h37 => ?_)
          · exact absurd h37 (by rw [mw_up_at]; decide)
          · refine mw_ic hX 0 dX2_order_40 rfl ?_
            exact mw_ireturn hX hE dX2_order_41 (rfl) (by omega) (by omega)
        · exact absurd h12 (fun q => q rfl)
  · refine mw_cS hX [_] ws_X2_72 dX2_order_2 (c_isPlantX (mw_l X) p h2 mw_Y0 I L) rfl (by omega) (by omega) (by omega) (Nat.le_of_ble_eq_true rfl) ?_
    refine mw_if_eq hX (tgt := 29) dX2_order_5 (by decide) (fun h5 => ?_) (fun h5 => ?_)
    · refine mw_ic hX 1 dX2_order_29 rfl ?_
      refine mw_putI hX dX2_order_30 (mw_Yl (by decide)) mw_YM fl_X2_64 (by decide) (by decide) rfl ?_
      refine mw_aload_n hX dX2_order_33 rfl rfl ?_
      refine mw_getI hX dX2_order_34 (mw_Yl (by decide)) mw_YM fl_X2_64 (by decide) (by decide) rfl ?_
      refine mw_if_le hX (tgt := 42) dX2_order_37 (by decide) (fun h37 => ?_) (fun h37 => ?_)
      · exact absurd h37 (by rw [mw_up_at]; decide)
      · refine mw_ic hX 0 dX2_order_40 rfl ?_
        exact mw_ireturn hX hE dX2_order_41 (rfl) (by omega) (by omega)
    · exact absurd h5 (fun q => q rfl)
set_option maxRecDepth 20000 in
theorem c_m_order (l : Launch) (i : Nat) (hi : i < 3) (o : Nat) (ho : o < 2) (a : Int32) (ha : okR a 0 30) (I : mw_I) (L : mw_L) : mw_CT l yX2_order (.code yX2_order cX2_order 5 (some .int)) 4 0 0 [.ref 40, .int (nI i), .int (nI o), .int a] (mw_Y0, I, L) (.inl (some (.int ((mw_up I 40 19 0) 47 (2 * i + o))), mw_Y0, mw_up (mw_up I 40 19 0) 47 (2 * i + o) a, L)) := by
  refine mw_enter RX2 rfl (by decide +kernel) (mw_cat rfl) (Nat.le_of_ble_eq_true rfl) (fun X hX hl hE hT hnm => ?_)
  subst hl
  show mw_G X 0 [some (.ref 40), some (.int (nI i)), some (.int (nI o)), some (.int a), none] [] mw_Y0 I L 0 0
  refine mw_aload_n hX dX2_order_0 rfl rfl ?_
  refine mw_iload_n hX dX2_order_1 rfl rfl ?_
  refine mw_cS hX [_] ws_X2_72 dX2_order_2 (c_isPlant (mw_l X) (nI i) (okR_nI (n := 2) (by decide) hi) mw_Y0 I L) rfl (by omega) (by omega) (by omega) (Nat.le_of_ble_eq_true rfl) ?_
  refine mw_if_eq hX (tgt := 29) dX2_order_5 (by decide) (fun h5 => ?_) (fun h5 => ?_)
  · exact absurd h5 (by decide)
  · refine mw_iload_n hX dX2_order_8 rfl rfl ?_
    refine mw_cS hX [_] ws_X2_76 dX2_order_9 (c_isOwner (mw_l X) (nI o) (okR_nI (n := 1) (by decide) ho) mw_Y0 I L) rfl (by omega) (by omega) (by omega) (Nat.le_of_ble_eq_true rfl) ?_
    refine mw_if_eq hX (tgt := 29) dX2_order_12 (by decide) (fun h12 => ?_) (fun h12 => ?_)
    · exact absurd h12 (by decide)
    · refine mw_iload_n hX dX2_order_15 rfl rfl ?_
      refine mw_ic hX 0 dX2_order_16 rfl ?_
      refine mw_bp hX 30 dX2_order_17 rfl ?_
      refine mw_cS hX [_, _, _] ws_X2_68 dX2_order_19 (c_isIn (mw_l X) a 0 30 ha mw_Y0 I L) rfl (by omega) (by omega) (by omega) (Nat.le_of_ble_eq_true rfl) ?_
      refine mw_if_eq hX (tgt := 29) dX2_order_22 (by decide) (fun h22 => ?_) (fun h22 => ?_)
      · exact absurd h22 (by decide)
      · refine mw_ic hX 0 dX2_order_25 rfl ?_
        refine mw_goto hX (tgt := 30) dX2_order_26 (by decide) ?_
        refine mw_putI hX dX2_order_30 (mw_Yl (by decide)) mw_YM fl_X2_64 (by decide) (by decide) rfl ?_
        refine mw_aload_n hX dX2_order_33 rfl rfl ?_
        refine mw_getI hX dX2_order_34 (mw_Yl (by decide)) mw_YM fl_X2_64 (by decide) (by decide) rfl ?_
        refine mw_if_le hX (tgt := 42) dX2_order_37 (by decide) (fun h37 => ?_) (fun h37 => ?_)
        · refine mw_aload_n hX dX2_order_42 rfl rfl ?_
          refine mw_getR hX (r := 47) dX2_order_43 (mw_Yl (by decide)) mw_YM fl_X2_28 (by decide) (by decide) rfl rfl ?_
          refine mw_ic hX 2 dX2_order_46 rfl ?_
          refine mw_iload_n hX dX2_order_47 rfl rfl ?_
          refine mw_imul hX dX2_order_48 ?_
          refine mw_iload_n hX dX2_order_49 rfl rfl ?_
          refine mw_iadd hX dX2_order_50 ?_
          refine mw_iaload hX (j := (2 * i) + o) dX2_order_51 (mw_Yl (by decide)) rfl (by simp only [mw_n0, mw_n1, mw_n2, mw_n3, mw_n4, mw_n5, mw_n6, mw_n8, mw_n9, mw_n18, mw_n210, mw_n260, pk_mul, nI_add]) (by omega) (by decide) ?_
          refine mw_istore hX dX2_order_52 (Nat.le_of_ble_eq_true rfl) ?_
          dsimp only [List.set]
          refine mw_aload_n hX dX2_order_54 rfl rfl ?_
          refine mw_getR hX (r := 47) dX2_order_55 (mw_Yl (by decide)) mw_YM fl_X2_28 (by decide) (by decide) rfl rfl ?_
          refine mw_ic hX 2 dX2_order_58 rfl ?_
          refine mw_iload_n hX dX2_order_59 rfl rfl ?_
          refine mw_imul hX dX2_order_60 ?_
          refine mw_iload_n hX dX2_order_61 rfl rfl ?_
          refine mw_iadd hX dX2_order_62 ?_
          refine mw_iload_n hX dX2_order_63 rfl rfl ?_
          refine mw_iastore hX (j := (2 * i) + o) dX2_order_64 (mw_Yl (by decide)) rfl (by simp only [mw_n0, mw_n1, mw_n2, mw_n3, mw_n4, mw_n5, mw_n6, mw_n8, mw_n9, mw_n18, mw_n210, mw_n260, pk_mul, nI_add]) (by omega) (by decide) ?_
          refine mw_iload hX dX2_order_65 rfl ?_
          exact mw_ireturn hX hE dX2_order_67 (rfl) (by omega) (by omega)
        · exact absurd (by rw [mw_t0]; decide) h37
set_option maxRecDepth 20000 in
theorem c_m_setYieldX (l : Launch) (p t f a : Int32) (h : ¬ (okR p 0 2 ∧ okR t 0 1 ∧ okR f 1 8 ∧ okR a 0 200)) (I : mw_I) (L : mw_L) : mw_CT l yX2_setYield (.code yX2_setYield cX2_setYield 7 (some .int)) 4 0 0 [.ref 40, .int p, .int t, .int f, .int a] (mw_Y0, I, L) (.inl (some (.int 0), mw_Y0, mw_up I 40 19 1, L)) := by
  refine mw_enter RX2 rfl (by decide +kernel) (mw_cat rfl) (Nat.le_of_ble_eq_true rfl) (fun X hX hl hE hT hnm => ?_)
  subst hl
  show mw_G X 0 [some (.ref 40), some (.int p), some (.int t), some (.int f), some (.int a), none, none] [] mw_Y0 I L 0 0
  refine mw_aload_n hX dX2_setYield_0 rfl rfl ?_
  refine mw_iload_n hX dX2_setYield_1 rfl rfl ?_
  rcases Classical.em (okR p 0 2) with h2 | h2
  · refine mw_cS hX [_] ws_X2_72 dX2_setYield_2 (c_isPlant (mw_l X) p h2 mw_Y0 I L) rfl (by omega) (by omega) (by omega) (Nat.le_of_ble_eq_true rfl) ?_
    refine mw_if_eq hX (tgt := 43) dX2_setYield_5 (by decide) (fun h5 => ?_) (fun h5 => ?_)
    · exact absurd h5 (by decide)
    · refine mw_iload_n hX dX2_setYield_8 rfl rfl ?_
      refine mw_ic hX 0 dX2_setYield_9 rfl ?_
      refine mw_ic hX 1 dX2_setYield_10 rfl ?_
      rcases Classical.em (okR t 0 1) with h11 | h11
      · refine mw_cS hX [_, _, _] ws_X2_68 dX2_setYield_11 (c_isIn (mw_l X) t 0 1 h11 mw_Y0 I L) rfl (by omega) (by omega) (by omega) (Nat.le_of_ble_eq_true rfl) ?_
        refine mw_if_eq hX (tgt := 43) dX2_setYield_14 (by decide) (fun h14 => ?_) (fun h14 => ?_)
        · exact absurd h14 (by decide)
        · refine mw_iload_n hX dX2_setYield_17 rfl rfl ?_
          refine mw_ic hX 1 dX2_setYield_18 rfl ?_
          refine mw_bp hX 8 dX2_setYield_19 rfl ?_
          rcases Classical.em (okR f 1 8) with h21 | h21
          · refine mw_cS hX [_, _, _] ws_X2_68 dX2_setYield_21 (c_isIn (mw_l X) f 1 8 h21 mw_Y0 I L) rfl (by omega) (by omega) (by omega) (Nat.le_of_ble_eq_true rfl) ?_
            refine mw_if_eq hX (tgt := 43) dX2_setYield_24 (by decide) (fun h24 => ?_) (fun h24 => ?_)
            · exact absurd h24 (by decide)
            · refine mw_iload hX dX2_setYield_27 rfl ?_
              refine mw_ic hX 0 dX2_setYield_29 rfl ?_
              refine mw_sp hX 200 dX2_setYield_30 rfl ?_
              rcases Classical.em (okR a 0 200) with h33 | h33
              · refine mw_cS hX [_, _, _] ws_X2_68 dX2_setYield_33 (c_isIn (mw_l X) a 0 200 h33 mw_Y0 I L) rfl (by omega) (by omega) (by omega) (Nat.le_of_ble_eq_true rfl) ?_
                refine mw_if_eq hX (tgt := 43) dX2_setYield_36 (by decide) (fun h36 => ?_) (fun h36 => ?_)
                · exact absurd h36 (by decide)
                · exact absurd ⟨h2, h11, h21, h33⟩ h
              · refine mw_cS hX [_, _, _] ws_X2_68 dX2_setYield_33 (c_isInX (mw_l X) a 0 200 h33 mw_Y0 I L) rfl (by omega) (by omega) (by omega) (Nat.le_of_ble_eq_true rfl) ?_
                refine mw_if_eq hX (tgt := 43) dX2_setYield_36 (by decide) (fun h36 => ?_) (fun h36 => ?_)
                · refine mw_ic hX 1 dX2_setYield_43 rfl ?_
                  refine mw_putI hX dX2_setYield_44 (mw_Yl (by decide)) mw_YM fl_X2_64 (by decide) (by decide) rfl ?_
                  refine mw_aload_n hX dX2_setYield_47 rfl rfl ?_
                  refine mw_getI hX dX2_setYield_48 (mw_Yl (by decide)) mw_YM fl_X2_64 (by decide) (by decide) rfl ?_
                  refine mw_if_le hX (tgt := 56) dX2_setYield_51 (by decide) (fun h51 => ?_) (fun h51 => ?_)
                  · exact absurd h51 (by rw [mw_up_at]; decide)
                  · refine mw_ic hX 0 dX2_setYield_54 rfl ?_
                    exact mw_ireturn hX hE dX2_setYield_55 (rfl) (by omega) (by omega)
                · exact absurd h36 (fun q => q rfl)
          · refine mw_cS hX [_, _, _] ws_X2_68 dX2_setYield_21 (c_isInX (mw_l X) f 1 8 h21 mw_Y0 I L) rfl (by omega) (by omega) (by omega) (Nat.le_of_ble_eq_true rfl) ?_
            refine mw_if_eq hX (tgt := 43) dX2_setYield_24 (by decide) (fun h24 => ?_) (fun h24 => ?_)
            · refine mw_ic hX 1 dX2_setYield_43 rfl ?_
              refine mw_putI hX dX2_setYield_44 (mw_Yl (by decide)) mw_YM fl_X2_64 (by decide) (by decide) rfl ?_
              refine mw_aload_n hX dX2_setYield_47 rfl rfl ?_
              refine mw_getI hX dX2_setYield_48 (mw_Yl (by decide)) mw_YM fl_X2_64 (by decide) (by decide) rfl ?_
              refine mw_if_le hX (tgt := 56) dX2_setYield_51 (by decide) (fun h51 => ?_) (fun h51 => ?_)
              · exact absurd h51 (by rw [mw_up_at]; decide)
              · refine mw_ic hX 0 dX2_setYield_54 rfl ?_
                exact mw_ireturn hX hE dX2_setYield_55 (rfl) (by omega) (by omega)
            · exact absurd h24 (fun q => q rfl)
      · refine mw_cS hX [_, _, _] ws_X2_68 dX2_setYield_11 (c_isInX (mw_l X) t 0 1 h11 mw_Y0 I L) rfl (by omega) (by omega) (by omega) (Nat.le_of_ble_eq_true rfl) ?_
        refine mw_if_eq hX (tgt := 43) dX2_setYield_14 (by decide) (fun h14 => ?_) (fun h14 => ?_)
        · refine mw_ic hX 1 dX2_setYield_43 rfl ?_
          refine mw_putI hX dX2_setYield_44 (mw_Yl (by decide)) mw_YM fl_X2_64 (by decide) (by decide) rfl ?_
          refine mw_aload_n hX dX2_setYield_47 rfl rfl ?_
          refine mw_getI hX dX2_setYield_48 (mw_Yl (by decide)) mw_YM fl_X2_64 (by decide) (by decide) rfl ?_
          refine mw_if_le hX (tgt := 56) dX2_setYield_51 (by decide) (fun h51 => ?_) (fun h51 => ?_)
          · exact absurd h51 (by rw [mw_up_at]; decide)
          · refine mw_ic hX 0 dX2_setYield_54 rfl ?_
            exact mw_ireturn hX hE dX2_setYield_55 (rfl) (by omega) (by omega)
        · exact absurd h14 (fun q => q rfl)
  · refine mw_cS hX [_] ws_X2_72 dX2_setYield_2 (c_isPlantX (mw_l X) p h2 mw_Y0 I L) rfl (by omega) (by omega) (by omega) (Nat.le_of_ble_eq_true rfl) ?_
    refine mw_if_eq hX (tgt := 43) dX2_setYield_5 (by decide) (fun h5 => ?_) (fun h5 => ?_)
    · refine mw_ic hX 1 dX2_setYield_43 rfl ?_
      refine mw_putI hX dX2_setYield_44 (mw_Yl (by decide)) mw_YM fl_X2_64 (by decide) (by decide) rfl ?_
      refine mw_aload_n hX dX2_setYield_47 rfl rfl ?_
      refine mw_getI hX dX2_setYield_48 (mw_Yl (by decide)) mw_YM fl_X2_64 (by decide) (by decide) rfl ?_
      refine mw_if_le hX (tgt := 56) dX2_setYield_51 (by decide) (fun h51 => ?_) (fun h51 => ?_)
      · exact absurd h51 (by rw [mw_up_at]; decide)
      · refine mw_ic hX 0 dX2_setYield_54 rfl ?_
        exact mw_ireturn hX hE dX2_setYield_55 (rfl) (by omega) (by omega)
    · exact absurd h5 (fun q => q rfl)
set_option maxRecDepth 20000 in
theorem c_m_setYield (l : Launch) (i : Nat) (hi : i < 3) (t : Nat) (ht : t < 2) (f : Nat) (hf0 : 1 ≤ f) (hf : f < 9) (a : Int32) (ha : okR a 0 200) (I : mw_I) (L : mw_L) : mw_CT l yX2_setYield (.code yX2_setYield cX2_setYield 7 (some .int)) 4 0 0 [.ref 40, .int (nI i), .int (nI t), .int (nI f), .int a] (mw_Y0, I, L) (.inl (some (.int ((mw_up I 40 19 0) 48 (18 * i + 9 * t + f))), mw_Y0, mw_up (mw_up I 40 19 0) 48 (18 * i + 9 * t + f) a, L)) := by
  refine mw_enter RX2 rfl (by decide +kernel) (mw_cat rfl) (Nat.le_of_ble_eq_true rfl) (fun X hX hl hE hT hnm => ?_)
  subst hl
  show mw_G X 0 [some (.ref 40), some (.int (nI i)), some (.int (nI t)), some (.int (nI f)), some (.int a), none, none] [] mw_Y0 I L 0 0
  refine mw_aload_n hX dX2_setYield_0 rfl rfl ?_
  refine mw_iload_n hX dX2_setYield_1 rfl rfl ?_
  refine mw_cS hX [_] ws_X2_72 dX2_setYield_2 (c_isPlant (mw_l X) (nI i) (okR_nI (n := 2) (by decide) hi) mw_Y0 I L) rfl (by omega) (by omega) (by omega) (Nat.le_of_ble_eq_true rfl) ?_
  refine mw_if_eq hX (tgt := 43) dX2_setYield_5 (by decide) (fun h5 => ?_) (fun h5 => ?_)
  · exact absurd h5 (by decide)
  · refine mw_iload_n hX dX2_setYield_8 rfl rfl ?_
    refine mw_ic hX 0 dX2_setYield_9 rfl ?_
    refine mw_ic hX 1 dX2_setYield_10 rfl ?_
    refine mw_cS hX [_, _, _] ws_X2_68 dX2_setYield_11 (c_isIn (mw_l X) (nI t) 0 1 (okR_nI (n := 1) (by decide) ht) mw_Y0 I L) rfl (by omega) (by omega) (by omega) (Nat.le_of_ble_eq_true rfl) ?_
    refine mw_if_eq hX (tgt := 43) dX2_setYield_14 (by decide) (fun h14 => ?_) (fun h14 => ?_)
    · exact absurd h14 (by decide)
    · refine mw_iload_n hX dX2_setYield_17 rfl rfl ?_
      refine mw_ic hX 1 dX2_setYield_18 rfl ?_
      refine mw_bp hX 8 dX2_setYield_19 rfl ?_
      refine mw_cS hX [_, _, _] ws_X2_68 dX2_setYield_21 (c_isIn (mw_l X) (nI f) 1 8 ⟨nI_nlt (a := f) (b := 1) hf0 (by omega), nI_le (a := f) (b := 8) (by omega) (by decide)⟩ mw_Y0 I L) rfl (by omega) (by omega) (by omega) (Nat.le_of_ble_eq_true rfl) ?_
      refine mw_if_eq hX (tgt := 43) dX2_setYield_24 (by decide) (fun h24 => ?_) (fun h24 => ?_)
      · exact absurd h24 (by decide)
      · refine mw_iload hX dX2_setYield_27 rfl ?_
        refine mw_ic hX 0 dX2_setYield_29 rfl ?_
        refine mw_sp hX 200 dX2_setYield_30 rfl ?_
        refine mw_cS hX [_, _, _] ws_X2_68 dX2_setYield_33 (c_isIn (mw_l X) a 0 200 ha mw_Y0 I L) rfl (by omega) (by omega) (by omega) (Nat.le_of_ble_eq_true rfl) ?_
        refine mw_if_eq hX (tgt := 43) dX2_setYield_36 (by decide) (fun h36 => ?_) (fun h36 => ?_)
        · exact absurd h36 (by decide)
        · refine mw_ic hX 0 dX2_setYield_39 rfl ?_
          refine mw_goto hX (tgt := 44) dX2_setYield_40 (by decide) ?_
          refine mw_putI hX dX2_setYield_44 (mw_Yl (by decide)) mw_YM fl_X2_64 (by decide) (by decide) rfl ?_
          refine mw_aload_n hX dX2_setYield_47 rfl rfl ?_
          refine mw_getI hX dX2_setYield_48 (mw_Yl (by decide)) mw_YM fl_X2_64 (by decide) (by decide) rfl ?_
          refine mw_if_le hX (tgt := 56) dX2_setYield_51 (by decide) (fun h51 => ?_) (fun h51 => ?_)
          · refine mw_bp hX 18 dX2_setYield_56 rfl ?_
            refine mw_iload_n hX dX2_setYield_58 rfl rfl ?_
            refine mw_imul hX dX2_setYield_59 ?_
            refine mw_bp hX 9 dX2_setYield_60 rfl ?_
            refine mw_iload_n hX dX2_setYield_62 rfl rfl ?_
            refine mw_imul hX dX2_setYield_63 ?_
            refine mw_iadd hX dX2_setYield_64 ?_
            refine mw_iload_n hX dX2_setYield_65 rfl rfl ?_
            refine mw_iadd hX dX2_setYield_66 ?_
            refine mw_istore hX dX2_setYield_67 (Nat.le_of_ble_eq_true rfl) ?_
            dsimp only [List.set]
            refine mw_aload_n hX dX2_setYield_69 rfl rfl ?_
            refine mw_getR hX (r := 48) dX2_setYield_70 (mw_Yl (by decide)) mw_YM fl_X2_31 (by decide) (by decide) rfl rfl ?_
            refine mw_iload hX dX2_setYield_73 rfl ?_
            refine mw_iaload hX (j := ((18 * i) + (9 * t)) + f) dX2_setYield_75 (mw_Yl (by decide)) rfl (by simp only [mw_n0, mw_n1, mw_n2, mw_n3, mw_n4, mw_n5, mw_n6, mw_n8, mw_n9, mw_n18, mw_n210, mw_n260, pk_mul, nI_add]) (by omega) (by decide) ?_
            refine mw_istore hX dX2_setYield_76 (Nat.le_of_ble_eq_true rfl) ?_
            dsimp only [List.set]
            refine mw_aload_n hX dX2_setYield_78 rfl rfl ?_
            refine mw_getR hX (r := 48) dX2_setYield_79 (mw_Yl (by decide)) mw_YM fl_X2_31 (by decide) (by decide) rfl rfl ?_
            refine mw_iload hX dX2_setYield_82 rfl ?_
            refine mw_iload hX dX2_setYield_84 rfl ?_
            refine mw_iastore hX (j := ((18 * i) + (9 * t)) + f) dX2_setYield_86 (mw_Yl (by decide)) rfl (by simp only [mw_n0, mw_n1, mw_n2, mw_n3, mw_n4, mw_n5, mw_n6, mw_n8, mw_n9, mw_n18, mw_n210, mw_n260, pk_mul, nI_add]) (by omega) (by decide) ?_
            refine mw_iload hX dX2_setYield_87 rfl ?_
            exact mw_ireturn hX hE dX2_setYield_89 (rfl) (by omega) (by omega)
          · exact absurd (by rw [mw_t0]; decide) h51
set_option maxRecDepth 20000 in
theorem c_m_mixed (l : Launch) (i : Nat) (hi : i < 3) (f : Int32) (I : mw_I) (L : mw_L) : mw_CT l yX2_mixed (.code yX2_mixed cX2_mixed 6 (some .int)) 1 0 0 [.ref 40, .int (nI i), .int f] (mw_Y0, I, L) (.inl (some (.int (mixedV I i f)), mw_Y0, I, L)) := by
  refine mw_enter RX2 rfl (by decide +kernel) (mw_cat rfl) (Nat.le_of_ble_eq_true rfl) (fun X hX hl hE hT hnm => ?_)
  subst hl
  show mw_G X 0 [some (.ref 40), some (.int (nI i)), some (.int f), none, none, none] [] mw_Y0 I L 0 0
  refine mw_ic hX 0 dX2_mixed_0 rfl ?_
  refine mw_istore_n hX dX2_mixed_1 rfl (Nat.le_of_ble_eq_true rfl) ?_
  dsimp only [List.set]
  refine mw_ic hX 0 dX2_mixed_2 rfl ?_
  refine mw_istore hX dX2_mixed_3 (Nat.le_of_ble_eq_true rfl) ?_
  dsimp only [List.set]
  refine mw_drop 5 ?_
  dsimp only [List.set]
  refine lp_dn (P := fun k => mw_G X 5 [some (.ref 40), some (.int (nI i)), some (.int f), some (.int (lpN (mixedG I i f) k 0)), some (.int (nI (k))), none] [] mw_Y0 (I) (L) 0 0) 0 81 ?_ ?_ 0 (Nat.le_refl _) (by omega)
  · show mw_G X 5 [some (.ref 40), some (.int (nI i)), some (.int f), some (.int (lpN (mixedG I i f) 81 0)), some (.int (nI (81))), none] [] mw_Y0 (I) (L) 0 0
    refine mw_iload hX dX2_mixed_5 rfl ?_
    refine mw_bp hX 81 dX2_mixed_7 rfl ?_
    refine mw_icmp_ge hX (tgt := 82) dX2_mixed_9 (by decide) (fun h9 => ?_) (fun h9 => ?_)
    · refine mw_iload_n hX dX2_mixed_82 rfl rfl ?_
      exact mw_ireturn hX hE dX2_mixed_83 (rfl) (by omega) (by omega)
    · exact absurd (nI_le (a := 81) (b := 81) (by omega) (by omega)) h9
  · intro k hsk hk ihk
    show mw_G X 5 [some (.ref 40), some (.int (nI i)), some (.int f), some (.int (lpN (mixedG I i f) k 0)), some (.int (nI (k))), none] [] mw_Y0 (I) (L) 0 0
    refine mw_iload hX dX2_mixed_5 rfl ?_
    refine mw_bp hX 81 dX2_mixed_7 rfl ?_
    refine mw_icmp_ge hX (tgt := 82) dX2_mixed_9 (by decide) (fun h9 => ?_) (fun h9 => ?_)
    · exact absurd h9 (nI_ge (a := k) (b := 81) (by omega) (by omega))
    · refine mw_aload_n hX dX2_mixed_12 rfl rfl ?_
      refine mw_getR hX (r := 48) dX2_mixed_13 (mw_Yl (by decide)) mw_YM fl_X2_31 (by decide) (by decide) rfl rfl ?_
      refine mw_bp hX 18 dX2_mixed_16 rfl ?_
      refine mw_iload_n hX dX2_mixed_18 rfl rfl ?_
      refine mw_imul hX dX2_mixed_19 ?_
      refine mw_iload hX dX2_mixed_20 rfl ?_
      refine mw_bp hX 9 dX2_mixed_22 rfl ?_
      refine mw_idiv hX (by decide) dX2_mixed_24 ?_
      rw [mw_n9, pk_div (by omega) (by omega) (by omega)]
      refine mw_iadd hX dX2_mixed_25 ?_
      refine mw_iaload hX (j := 18 * i + k / 9) dX2_mixed_26 (mw_Yl (by decide)) rfl (by rw [mw_n18, pk_mul, nI_add]) (by omega) (by decide) ?_
      refine mw_aload_n hX dX2_mixed_27 rfl rfl ?_
      refine mw_getR hX (r := 48) dX2_mixed_28 (mw_Yl (by decide)) mw_YM fl_X2_31 (by decide) (by decide) rfl rfl ?_
      refine mw_bp hX 18 dX2_mixed_31 rfl ?_
      refine mw_iload_n hX dX2_mixed_33 rfl rfl ?_
      refine mw_imul hX dX2_mixed_34 ?_
      refine mw_bp hX 9 dX2_mixed_35 rfl ?_
      refine mw_iadd hX dX2_mixed_37 ?_
      refine mw_iload hX dX2_mixed_38 rfl ?_
      refine mw_bp hX 9 dX2_mixed_40 rfl ?_
      refine mw_irem hX (by decide) dX2_mixed_42 ?_
      rw [mw_n9, pk_rem (by omega) (by omega) (by omega)]
      refine mw_iadd hX dX2_mixed_43 ?_
      refine mw_iaload hX (j := 18 * i + 9 + k % 9) dX2_mixed_44 (mw_Yl (by decide)) rfl (by rw [mw_n18, pk_mul, nI_add, nI_add]) (by omega) (by decide) ?_
      refine mw_iadd hX dX2_mixed_45 ?_
      refine mw_istore hX dX2_mixed_46 (Nat.le_of_ble_eq_true rfl) ?_
      dsimp only [List.set]
      refine mw_iload hX dX2_mixed_48 rfl ?_
      refine mw_bp hX 9 dX2_mixed_50 rfl ?_
      refine mw_idiv hX (by decide) dX2_mixed_52 ?_
      rw [mw_n9, pk_div (by omega) (by omega) (by omega)]
      refine mw_iload hX dX2_mixed_53 rfl ?_
      refine mw_bp hX 9 dX2_mixed_55 rfl ?_
      refine mw_irem hX (by decide) dX2_mixed_57 ?_
      rw [mw_n9, pk_rem (by omega) (by omega) (by omega)]
      refine mw_iadd hX dX2_mixed_58 ?_
      refine mw_iload_n hX dX2_mixed_59 rfl rfl ?_
      refine mw_icmp_gt hX (tgt := 74) dX2_mixed_60 (by decide) (fun h60 => ?_) (fun h60 => ?_)
      · refine mw_iload_n hX dX2_mixed_74 rfl rfl ?_
        refine mw_istore_n hX dX2_mixed_75 rfl (Nat.le_of_ble_eq_true rfl) ?_
        dsimp only [List.set]
        refine mw_inc hX (nI (k + 1)) dX2_mixed_76 rfl (mw_inc1 _) ?_
        dsimp only [List.set]
        refine mw_goto hX (tgt := 5) dX2_mixed_79 (by decide) ?_
        refine mw_drop 5 ?_
        dsimp only [List.set]
        rw [lpN_succ, mixedG, if_pos h60] at ihk
        exact ihk
      · refine mw_iload hX dX2_mixed_63 rfl ?_
        refine mw_iload_n hX dX2_mixed_65 rfl rfl ?_
        refine mw_icmp_le hX (tgt := 74) dX2_mixed_66 (by decide) (fun h66 => ?_) (fun h66 => ?_)
        · refine mw_iload_n hX dX2_mixed_74 rfl rfl ?_
          refine mw_istore_n hX dX2_mixed_75 rfl (Nat.le_of_ble_eq_true rfl) ?_
          dsimp only [List.set]
          refine mw_inc hX (nI (k + 1)) dX2_mixed_76 rfl (mw_inc1 _) ?_
          dsimp only [List.set]
          refine mw_goto hX (tgt := 5) dX2_mixed_79 (by decide) ?_
          refine mw_drop 5 ?_
          dsimp only [List.set]
          rw [lpN_succ, mixedG, if_neg h60, if_pos h66] at ihk
          exact ihk
        · refine mw_iload hX dX2_mixed_69 rfl ?_
          refine mw_goto hX (tgt := 75) dX2_mixed_71 (by decide) ?_
          refine mw_istore_n hX dX2_mixed_75 rfl (Nat.le_of_ble_eq_true rfl) ?_
          dsimp only [List.set]
          refine mw_inc hX (nI (k + 1)) dX2_mixed_76 rfl (mw_inc1 _) ?_
          dsimp only [List.set]
          refine mw_goto hX (tgt := 5) dX2_mixed_79 (by decide) ?_
          refine mw_drop 5 ?_
          dsimp only [List.set]
          rw [lpN_succ, mixedG, if_neg h60, if_neg h66] at ihk
          exact ihk
set_option maxRecDepth 20000 in
theorem c_m_filled (l : Launch) (i : Nat) (hi : i < 3) (I : mw_I) (L : mw_L) : mw_CT l yX2_filled (.code yX2_filled cX2_filled 2 (some .int)) 1 0 0 [.ref 40, .int (nI i)] (mw_Y0, I, L) (.inl (some (.int (filledV I i)), mw_Y0, I, L)) := by
  refine mw_enter RX2 rfl (by decide +kernel) (mw_cat rfl) (Nat.le_of_ble_eq_true rfl) (fun X hX hl hE hT hnm => ?_)
  subst hl
  show mw_G X 0 [some (.ref 40), some (.int (nI i))] [] mw_Y0 I L 0 0
  refine mw_aload_n hX dX2_filled_0 rfl rfl ?_
  refine mw_getR hX (r := 49) dX2_filled_1 (mw_Yl (by decide)) mw_YM fl_X2_34 (by decide) (by decide) rfl rfl ?_
  refine mw_ic hX 2 dX2_filled_4 rfl ?_
  refine mw_iload_n hX dX2_filled_5 rfl rfl ?_
  refine mw_imul hX dX2_filled_6 ?_
  refine mw_iaload hX (j := 2 * i) dX2_filled_7 (mw_Yl (by decide)) rfl (by simp only [mw_n0, mw_n1, mw_n2, mw_n3, mw_n4, mw_n5, mw_n6, mw_n8, mw_n9, mw_n18, mw_n210, mw_n260, pk_mul, nI_add]) (by omega) (by decide) ?_
  refine mw_aload_n hX dX2_filled_8 rfl rfl ?_
  refine mw_getR hX (r := 49) dX2_filled_9 (mw_Yl (by decide)) mw_YM fl_X2_34 (by decide) (by decide) rfl rfl ?_
  refine mw_ic hX 2 dX2_filled_12 rfl ?_
  refine mw_iload_n hX dX2_filled_13 rfl rfl ?_
  refine mw_imul hX dX2_filled_14 ?_
  refine mw_ic hX 1 dX2_filled_15 rfl ?_
  refine mw_iadd hX dX2_filled_16 ?_
  refine mw_iaload hX (j := (2 * i) + 1) dX2_filled_17 (mw_Yl (by decide)) rfl (by simp only [mw_n0, mw_n1, mw_n2, mw_n3, mw_n4, mw_n5, mw_n6, mw_n8, mw_n9, mw_n18, mw_n210, mw_n260, pk_mul, nI_add]) (by omega) (by decide) ?_
  refine mw_iadd hX dX2_filled_18 ?_
  exact mw_ireturn hX hE dX2_filled_19 (rfl) (by omega) (by omega)
set_option maxRecDepth 20000 in
theorem c_m_richer (l : Launch) (i : Nat) (hi : i < 3) (I : mw_I) (L : mw_L) : mw_CT l yX2_richer (.code yX2_richer cX2_richer 2 (some .int)) 1 0 0 [.ref 40, .int (nI i)] (mw_Y0, I, L) (.inl (some (.int (nI (richerN I i))), mw_Y0, I, L)) := by
  refine mw_enter RX2 rfl (by decide +kernel) (mw_cat rfl) (Nat.le_of_ble_eq_true rfl) (fun X hX hl hE hT hnm => ?_)
  subst hl
  show mw_G X 0 [some (.ref 40), some (.int (nI i))] [] mw_Y0 I L 0 0
  refine mw_aload_n hX dX2_richer_0 rfl rfl ?_
  refine mw_getR hX (r := 49) dX2_richer_1 (mw_Yl (by decide)) mw_YM fl_X2_34 (by decide) (by decide) rfl rfl ?_
  refine mw_ic hX 2 dX2_richer_4 rfl ?_
  refine mw_iload_n hX dX2_richer_5 rfl rfl ?_
  refine mw_imul hX dX2_richer_6 ?_
  refine mw_ic hX 1 dX2_richer_7 rfl ?_
  refine mw_iadd hX dX2_richer_8 ?_
  refine mw_iaload hX (j := (2 * i) + 1) dX2_richer_9 (mw_Yl (by decide)) rfl (by simp only [mw_n0, mw_n1, mw_n2, mw_n3, mw_n4, mw_n5, mw_n6, mw_n8, mw_n9, mw_n18, mw_n210, mw_n260, pk_mul, nI_add]) (by omega) (by decide) ?_
  refine mw_aload_n hX dX2_richer_10 rfl rfl ?_
  refine mw_getR hX (r := 49) dX2_richer_11 (mw_Yl (by decide)) mw_YM fl_X2_34 (by decide) (by decide) rfl rfl ?_
  refine mw_ic hX 2 dX2_richer_14 rfl ?_
  refine mw_iload_n hX dX2_richer_15 rfl rfl ?_
  refine mw_imul hX dX2_richer_16 ?_
  refine mw_iaload hX (j := 2 * i) dX2_richer_17 (mw_Yl (by decide)) rfl (by simp only [mw_n0, mw_n1, mw_n2, mw_n3, mw_n4, mw_n5, mw_n6, mw_n8, mw_n9, mw_n18, mw_n210, mw_n260, pk_mul, nI_add]) (by omega) (by decide) ?_
  refine mw_icmp_le hX (tgt := 25) dX2_richer_18 (by decide) (fun h18 => ?_) (fun h18 => ?_)
  · refine mw_ic hX 0 dX2_richer_25 rfl ?_
    exact mw_ireturn hX hE dX2_richer_26 (by rw [richerN, if_pos h18]; rfl) (by omega) (by omega)
  · refine mw_ic hX 1 dX2_richer_21 rfl ?_
    refine mw_goto hX (tgt := 26) dX2_richer_22 (by decide) ?_
    exact mw_ireturn hX hE dX2_richer_26 (by rw [richerN, if_neg h18]; rfl) (by omega) (by omega)
set_option maxRecDepth 20000 in
theorem c_m_sends (l : Launch) (i : Nat) (hi : i < 3) (o : Nat) (ho : o < 2) (a : Int32) (h : Nat) (hh : h < 200) (t : Nat) (ht : t < 6) (I : mw_I) (hH : I 40 10 = nI h) (hTr : I 43 i = nI t) (L : mw_L) : mw_CT l yX2_sends (.code yX2_sends cX2_sends 4 none) 1 0 0 [.ref 40, .int (nI i), .int (nI o), .int a] (mw_Y0, I, L) (.inl (none, mw_Y0, sendsI I i o a h t, L)) := by
  refine mw_enter RX2 rfl (by decide +kernel) (mw_cat rfl) (Nat.le_of_ble_eq_true rfl) (fun X hX hl hE hT hnm => ?_)
  subst hl
  show mw_G X 0 [some (.ref 40), some (.int (nI i)), some (.int (nI o)), some (.int a)] [] mw_Y0 I L 0 0
  refine mw_iload_n hX dX2_sends_0 rfl rfl ?_
  refine mw_ic hX 2 dX2_sends_1 rfl ?_
  refine mw_icmp_ne hX (tgt := 18) dX2_sends_2 (by decide) (fun h2 => ?_) (fun h2 => ?_)
  · have hi2 : ¬ i = 2 := fun q => h2 (by rw [q]; rfl)
    refine mw_aload_n hX dX2_sends_18 rfl rfl ?_
    refine mw_getR hX (r := 50) dX2_sends_19 (mw_Yl (by decide)) mw_YM fl_X2_37 (by decide) (by decide) rfl rfl ?_
    refine mw_sp hX 210 dX2_sends_22 rfl ?_
    refine mw_ic hX 2 dX2_sends_25 rfl ?_
    refine mw_iload_n hX dX2_sends_26 rfl rfl ?_
    refine mw_imul hX dX2_sends_27 ?_
    refine mw_ic hX 2 dX2_sends_28 rfl ?_
    refine mw_iadd hX dX2_sends_29 ?_
    refine mw_iload_n hX dX2_sends_30 rfl rfl ?_
    refine mw_iadd hX dX2_sends_31 ?_
    refine mw_imul hX dX2_sends_32 ?_
    refine mw_aload_n hX dX2_sends_33 rfl rfl ?_
    refine mw_getI hX dX2_sends_34 (mw_Yl (by decide)) mw_YM fl_X2_79 (by decide) (by decide) rfl ?_
    rw [hH]
    refine mw_iadd hX dX2_sends_37 ?_
    refine mw_aload_n hX dX2_sends_38 rfl rfl ?_
    refine mw_getR hX (r := 43) dX2_sends_39 (mw_Yl (by decide)) mw_YM fl_X2_16 (by decide) (by decide) rfl rfl ?_
    refine mw_iload_n hX dX2_sends_42 rfl rfl ?_
    refine mw_iaload hX (j := i) dX2_sends_43 (mw_Yl (by decide)) rfl rfl (by omega) (by decide) ?_
    rw [hTr]
    refine mw_iadd hX dX2_sends_44 ?_
    refine mw_dup2 hX dX2_sends_45 ?_
    refine mw_iaload hX (j := 210 * (2 * i + 2 + o) + h + t) dX2_sends_46 (mw_Yl (by decide)) rfl (by rw [mw_n210, mw_n2, pk_mul, nI_add, nI_add, pk_mul, nI_add, nI_add]) (by omega) (by decide) ?_
    refine mw_iload_n hX dX2_sends_47 rfl rfl ?_
    refine mw_iadd hX dX2_sends_48 ?_
    refine mw_iastore hX (j := 210 * (2 * i + 2 + o) + h + t) dX2_sends_49 (mw_Yl (by decide)) rfl (by rw [mw_n210, mw_n2, pk_mul, nI_add, nI_add, pk_mul, nI_add, nI_add]) (by omega) (by decide) ?_
    exact mw_return hX hE dX2_sends_50 (by rw [sendsI, if_neg hi2]) (by omega) (by omega)
  · have hi2 : i = 2 := (nI_eq (b := 2) (by omega) (by decide)).mp h2
    refine mw_aload_n hX dX2_sends_5 rfl rfl ?_
    refine mw_getR hX (r := 52) dX2_sends_6 (mw_Yl (by decide)) mw_YM fl_X2_43 (by decide) (by decide) rfl rfl ?_
    refine mw_iload_n hX dX2_sends_9 rfl rfl ?_
    refine mw_dup2 hX dX2_sends_10 ?_
    refine mw_iaload hX (j := o) dX2_sends_11 (mw_Yl (by decide)) rfl rfl (by omega) (by decide) ?_
    refine mw_iload_n hX dX2_sends_12 rfl rfl ?_
    refine mw_iadd hX dX2_sends_13 ?_
    refine mw_iastore hX (j := o) dX2_sends_14 (mw_Yl (by decide)) rfl rfl (by omega) (by decide) ?_
    refine mw_goto hX (tgt := 50) dX2_sends_15 (by decide) ?_
    exact mw_return hX hE dX2_sends_50 (by rw [sendsI, if_pos hi2]) (by omega) (by omega)
set_option maxRecDepth 20000 in
theorem c_m_hour (l : Launch) (I : mw_I) (L : mw_L) : mw_CT l yX2_hour (.code yX2_hour cX2_hour 1 (some .int)) 4 0 0 [.ref 40] (mw_Y0, I, L) (.inl (some (.int ((mw_up I 40 19 0) 40 10)), mw_Y0, mw_up I 40 19 0, L)) := by
  refine mw_enter RX2 rfl (by decide +kernel) (mw_cat rfl) (Nat.le_of_ble_eq_true rfl) (fun X hX hl hE hT hnm => ?_)
  subst hl
  show mw_G X 0 [some (.ref 40)] [] mw_Y0 I L 0 0
  refine mw_aload_n hX dX2_hour_0 rfl rfl ?_
  refine mw_ic hX 0 dX2_hour_1 rfl ?_
  refine mw_putI hX dX2_hour_2 (mw_Yl (by decide)) mw_YM fl_X2_64 (by decide) (by decide) rfl ?_
  refine mw_aload_n hX dX2_hour_5 rfl rfl ?_
  refine mw_getI hX dX2_hour_6 (mw_Yl (by decide)) mw_YM fl_X2_79 (by decide) (by decide) rfl ?_
  exact mw_ireturn hX hE dX2_hour_9 (rfl) (by omega) (by omega)
def mlendI (I : mw_I) (p o : Nat) (a : Int32) : mw_I :=
  let I1 := mw_up I 49 (2 * p + o) (I 49 (2 * p + o) - a)
  let I2 := mw_up I1 49 (2 * p + 1 - o) (I1 49 (2 * p + 1 - o) + a)
  let I3 := mw_up I2 53 o (I2 53 o + a)
  mw_up I3 53 (1 - o) (I3 53 (1 - o) - a)
theorem mw_tt {I : mw_I} {x z : Int32} : mw_up (mw_up I 40 19 x) 40 19 z = mw_up I 40 19 z := by
  funext a b
  rw [mw_up_ap, mw_up_ap, mw_up_ap]
  split <;> rfl
set_option maxRecDepth 20000 in
theorem c_m_lendX (l : Launch) (p o a : Int32) (h : ¬ (okR p 0 2 ∧ okR o 0 1 ∧ okR a 1 100)) (I : mw_I) (L : mw_L) : mw_CT l yX2_lend (.code yX2_lend cX2_lend 4 (some .int)) 4 0 0 [.ref 40, .int p, .int o, .int a] (mw_Y0, I, L) (.inl (some (.int 0), mw_Y0, mw_up I 40 19 1, L)) := by
  refine mw_enter RX2 rfl (by decide +kernel) (mw_cat rfl) (Nat.le_of_ble_eq_true rfl) (fun X hX hl hE hT hnm => ?_)
  subst hl
  show mw_G X 0 [some (.ref 40), some (.int p), some (.int o), some (.int a)] [] mw_Y0 I L 0 0
  refine mw_aload_n hX dX2_lend_0 rfl rfl ?_
  refine mw_iload_n hX dX2_lend_1 rfl rfl ?_
  rcases Classical.em (okR p 0 2) with h2 | h2
  · refine mw_cS hX [_] ws_X2_72 dX2_lend_2 (c_isPlant (mw_l X) p h2 mw_Y0 I L) rfl (by omega) (by omega) (by omega) (Nat.le_of_ble_eq_true rfl) ?_
    refine mw_if_eq hX (tgt := 29) dX2_lend_5 (by decide) (fun h5 => ?_) (fun h5 => ?_)
    · exact absurd h5 (by decide)
    · refine mw_iload_n hX dX2_lend_8 rfl rfl ?_
      rcases Classical.em (okR o 0 1) with h9 | h9
      · refine mw_cS hX [_] ws_X2_76 dX2_lend_9 (c_isOwner (mw_l X) o h9 mw_Y0 I L) rfl (by omega) (by omega) (by omega) (Nat.le_of_ble_eq_true rfl) ?_
        refine mw_if_eq hX (tgt := 29) dX2_lend_12 (by decide) (fun h12 => ?_) (fun h12 => ?_)
        · exact absurd h12 (by decide)
        · refine mw_iload_n hX dX2_lend_15 rfl rfl ?_
          refine mw_ic hX 1 dX2_lend_16 rfl ?_
          refine mw_bp hX 100 dX2_lend_17 rfl ?_
          rcases Classical.em (okR a 1 100) with h19 | h19
          · refine mw_cS hX [_, _, _] ws_X2_68 dX2_lend_19 (c_isIn (mw_l X) a 1 100 h19 mw_Y0 I L) rfl (by omega) (by omega) (by omega) (Nat.le_of_ble_eq_true rfl) ?_
            refine mw_if_eq hX (tgt := 29) dX2_lend_22 (by decide) (fun h22 => ?_) (fun h22 => ?_)
            · exact absurd h22 (by decide)
            · exact absurd ⟨h2, h9, h19⟩ h
          · refine mw_cS hX [_, _, _] ws_X2_68 dX2_lend_19 (c_isInX (mw_l X) a 1 100 h19 mw_Y0 I L) rfl (by omega) (by omega) (by omega) (Nat.le_of_ble_eq_true rfl) ?_
            refine mw_if_eq hX (tgt := 29) dX2_lend_22 (by decide) (fun h22 => ?_) (fun h22 => ?_)
            · refine mw_ic hX 1 dX2_lend_29 rfl ?_
              refine mw_putI hX dX2_lend_30 (mw_Yl (by decide)) mw_YM fl_X2_64 (by decide) (by decide) rfl ?_
              refine mw_aload_n hX dX2_lend_33 rfl rfl ?_
              refine mw_getI hX dX2_lend_34 (mw_Yl (by decide)) mw_YM fl_X2_64 (by decide) (by decide) rfl ?_
              refine mw_if_le hX (tgt := 42) dX2_lend_37 (by decide) (fun h37 => ?_) (fun h37 => ?_)
              · exact absurd h37 (by rw [mw_up_at]; decide)
              · refine mw_ic hX 0 dX2_lend_40 rfl ?_
                exact mw_ireturn hX hE dX2_lend_41 (rfl) (by omega) (by omega)
            · exact absurd h22 (fun q => q rfl)
      · refine mw_cS hX [_] ws_X2_76 dX2_lend_9 (c_isOwnerX (mw_l X) o h9 mw_Y0 I L) rfl (by omega) (by omega) (by omega) (Nat.le_of_ble_eq_true rfl) ?_
        refine mw_if_eq hX (tgt := 29) dX2_lend_12 (by decide) (fun h12 => ?_) (fun h12 => ?_)
        · refine mw_ic hX 1 dX2_lend_29 rfl ?_
          refine mw_putI hX dX2_lend_30 (mw_Yl (by decide)) mw_YM fl_X2_64 (by decide) (by decide) rfl ?_
          refine mw_aload_n hX dX2_lend_33 rfl rfl ?_
          refine mw_getI hX dX2_lend_34 (mw_Yl (by decide)) mw_YM fl_X2_64 (by decide) (by decide) rfl ?_
          refine mw_if_le hX (tgt := 42) dX2_lend_37 (by decide) (fun h37 => ?_) (fun h37 => ?_)
          · exact absurd h37 (by rw [mw_up_at]; decide)
          · refine mw_ic hX 0 dX2_lend_40 rfl ?_
            exact mw_ireturn hX hE dX2_lend_41 (rfl) (by omega) (by omega)
        · exact absurd h12 (fun q => q rfl)
  · refine mw_cS hX [_] ws_X2_72 dX2_lend_2 (c_isPlantX (mw_l X) p h2 mw_Y0 I L) rfl (by omega) (by omega) (by omega) (Nat.le_of_ble_eq_true rfl) ?_
    refine mw_if_eq hX (tgt := 29) dX2_lend_5 (by decide) (fun h5 => ?_) (fun h5 => ?_)
    · refine mw_ic hX 1 dX2_lend_29 rfl ?_
      refine mw_putI hX dX2_lend_30 (mw_Yl (by decide)) mw_YM fl_X2_64 (by decide) (by decide) rfl ?_
      refine mw_aload_n hX dX2_lend_33 rfl rfl ?_
      refine mw_getI hX dX2_lend_34 (mw_Yl (by decide)) mw_YM fl_X2_64 (by decide) (by decide) rfl ?_
      refine mw_if_le hX (tgt := 42) dX2_lend_37 (by decide) (fun h37 => ?_) (fun h37 => ?_)
      · exact absurd h37 (by rw [mw_up_at]; decide)
      · refine mw_ic hX 0 dX2_lend_40 rfl ?_
        exact mw_ireturn hX hE dX2_lend_41 (rfl) (by omega) (by omega)
    · exact absurd h5 (fun q => q rfl)
set_option maxRecDepth 20000 in
theorem c_m_lend (l : Launch) (I : mw_I) (i : Nat) (hi : i < 3) (o : Nat) (ho : o < 2) (a : Int32) (ha : okR a 1 100) (hq : a ≤ I 49 (2 * i + o)) (L : mw_L) : mw_CT l yX2_lend (.code yX2_lend cX2_lend 4 (some .int)) 4 0 0 [.ref 40, .int (nI i), .int (nI o), .int a] (mw_Y0, I, L) (.inl (some (.int (mlendI (mw_up I 40 19 0) i o a 49 (2 * i + o))), mw_Y0, mlendI (mw_up I 40 19 0) i o a, L)) := by
  refine mw_enter RX2 rfl (by decide +kernel) (mw_cat rfl) (Nat.le_of_ble_eq_true rfl) (fun X hX hl hE hT hnm => ?_)
  subst hl
  show mw_G X 0 [some (.ref 40), some (.int (nI i)), some (.int (nI o)), some (.int a)] [] mw_Y0 I L 0 0
  refine mw_aload_n hX dX2_lend_0 rfl rfl ?_
  refine mw_iload_n hX dX2_lend_1 rfl rfl ?_
  refine mw_cS hX [_] ws_X2_72 dX2_lend_2 (c_isPlant (mw_l X) (nI i) (okR_nI (n := 2) (by decide) hi) mw_Y0 I L) rfl (by omega) (by omega) (by omega) (Nat.le_of_ble_eq_true rfl) ?_
  refine mw_if_eq hX (tgt := 29) dX2_lend_5 (by decide) (fun h5 => ?_) (fun h5 => ?_)
  · exact absurd h5 (by decide)
  · refine mw_iload_n hX dX2_lend_8 rfl rfl ?_
    refine mw_cS hX [_] ws_X2_76 dX2_lend_9 (c_isOwner (mw_l X) (nI o) (okR_nI (n := 1) (by decide) ho) mw_Y0 I L) rfl (by omega) (by omega) (by omega) (Nat.le_of_ble_eq_true rfl) ?_
    refine mw_if_eq hX (tgt := 29) dX2_lend_12 (by decide) (fun h12 => ?_) (fun h12 => ?_)
    · exact absurd h12 (by decide)
    · refine mw_iload_n hX dX2_lend_15 rfl rfl ?_
      refine mw_ic hX 1 dX2_lend_16 rfl ?_
      refine mw_bp hX 100 dX2_lend_17 rfl ?_
      refine mw_cS hX [_, _, _] ws_X2_68 dX2_lend_19 (c_isIn (mw_l X) a 1 100 ha mw_Y0 I L) rfl (by omega) (by omega) (by omega) (Nat.le_of_ble_eq_true rfl) ?_
      refine mw_if_eq hX (tgt := 29) dX2_lend_22 (by decide) (fun h22 => ?_) (fun h22 => ?_)
      · exact absurd h22 (by decide)
      · refine mw_ic hX 0 dX2_lend_25 rfl ?_
        refine mw_goto hX (tgt := 30) dX2_lend_26 (by decide) ?_
        refine mw_putI hX dX2_lend_30 (mw_Yl (by decide)) mw_YM fl_X2_64 (by decide) (by decide) rfl ?_
        refine mw_aload_n hX dX2_lend_33 rfl rfl ?_
        refine mw_getI hX dX2_lend_34 (mw_Yl (by decide)) mw_YM fl_X2_64 (by decide) (by decide) rfl ?_
        refine mw_if_le hX (tgt := 42) dX2_lend_37 (by decide) (fun h37 => ?_) (fun h37 => ?_)
        · refine mw_aload_n hX dX2_lend_42 rfl rfl ?_
          refine mw_aload_n hX dX2_lend_43 rfl rfl ?_
          refine mw_getR hX (r := 49) dX2_lend_44 (mw_Yl (by decide)) mw_YM fl_X2_34 (by decide) (by decide) rfl rfl ?_
          refine mw_ic hX 2 dX2_lend_47 rfl ?_
          refine mw_iload_n hX dX2_lend_48 rfl rfl ?_
          refine mw_imul hX dX2_lend_49 ?_
          refine mw_iload_n hX dX2_lend_50 rfl rfl ?_
          refine mw_iadd hX dX2_lend_51 ?_
          refine mw_iaload hX (j := (2 * i) + o) dX2_lend_52 (mw_Yl (by decide)) rfl (by simp only [mw_n0, mw_n1, mw_n2, mw_n3, mw_n4, mw_n5, mw_n6, mw_n8, mw_n9, mw_n18, mw_n210, mw_n260, pk_mul, nI_add]) (by omega) (by decide) ?_
          refine mw_iload_n hX dX2_lend_53 rfl rfl ?_
          refine mw_icmp_ge hX (tgt := 61) dX2_lend_54 (by decide) (fun h54 => ?_) (fun h54 => ?_)
          · refine mw_ic hX 0 dX2_lend_61 rfl ?_
            refine mw_putI hX dX2_lend_62 (mw_Yl (by decide)) mw_YM fl_X2_64 (by decide) (by decide) rfl ?_
            rw [mw_tt]
            refine mw_aload_n hX dX2_lend_65 rfl rfl ?_
            refine mw_getI hX dX2_lend_66 (mw_Yl (by decide)) mw_YM fl_X2_64 (by decide) (by decide) rfl ?_
            refine mw_if_le hX (tgt := 74) dX2_lend_69 (by decide) (fun h69 => ?_) (fun h69 => ?_)
            · refine mw_aload_n hX dX2_lend_74 rfl rfl ?_
              refine mw_getR hX (r := 49) dX2_lend_75 (mw_Yl (by decide)) mw_YM fl_X2_34 (by decide) (by decide) rfl rfl ?_
              refine mw_ic hX 2 dX2_lend_78 rfl ?_
              refine mw_iload_n hX dX2_lend_79 rfl rfl ?_
              refine mw_imul hX dX2_lend_80 ?_
              refine mw_iload_n hX dX2_lend_81 rfl rfl ?_
              refine mw_iadd hX dX2_lend_82 ?_
              refine mw_dup2 hX dX2_lend_83 ?_
              refine mw_iaload hX (j := (2 * i) + o) dX2_lend_84 (mw_Yl (by decide)) rfl (by simp only [mw_n0, mw_n1, mw_n2, mw_n3, mw_n4, mw_n5, mw_n6, mw_n8, mw_n9, mw_n18, mw_n210, mw_n260, pk_mul, nI_add]) (by omega) (by decide) ?_
              refine mw_iload_n hX dX2_lend_85 rfl rfl ?_
              refine mw_isub hX dX2_lend_86 ?_
              refine mw_iastore hX (j := (2 * i) + o) dX2_lend_87 (mw_Yl (by decide)) rfl (by simp only [mw_n0, mw_n1, mw_n2, mw_n3, mw_n4, mw_n5, mw_n6, mw_n8, mw_n9, mw_n18, mw_n210, mw_n260, pk_mul, nI_add]) (by omega) (by decide) ?_
              refine mw_aload_n hX dX2_lend_88 rfl rfl ?_
              refine mw_getR hX (r := 49) dX2_lend_89 (mw_Yl (by decide)) mw_YM fl_X2_34 (by decide) (by decide) rfl rfl ?_
              refine mw_ic hX 2 dX2_lend_92 rfl ?_
              refine mw_iload_n hX dX2_lend_93 rfl rfl ?_
              refine mw_imul hX dX2_lend_94 ?_
              refine mw_ic hX 1 dX2_lend_95 rfl ?_
              refine mw_iadd hX dX2_lend_96 ?_
              refine mw_iload_n hX dX2_lend_97 rfl rfl ?_
              refine mw_isub hX dX2_lend_98 ?_
              refine mw_dup2 hX dX2_lend_99 ?_
              refine mw_iaload hX (j := 2 * i + 1 - o) dX2_lend_100 (mw_Yl (by decide)) rfl (by rw [mw_n2, mw_n1, pk_mul, nI_add, pk_sub (by omega)]) (by omega) (by decide) ?_
              refine mw_iload_n hX dX2_lend_101 rfl rfl ?_
              refine mw_iadd hX dX2_lend_102 ?_
              refine mw_iastore hX (j := 2 * i + 1 - o) dX2_lend_103 (mw_Yl (by decide)) rfl (by rw [mw_n2, mw_n1, pk_mul, nI_add, pk_sub (by omega)]) (by omega) (by decide) ?_
              refine mw_aload_n hX dX2_lend_104 rfl rfl ?_
              refine mw_getR hX (r := 53) dX2_lend_105 (mw_Yl (by decide)) mw_YM fl_X2_46 (by decide) (by decide) rfl rfl ?_
              refine mw_iload_n hX dX2_lend_108 rfl rfl ?_
              refine mw_dup2 hX dX2_lend_109 ?_
              refine mw_iaload hX (j := o) dX2_lend_110 (mw_Yl (by decide)) rfl rfl (by omega) (by decide) ?_
              refine mw_iload_n hX dX2_lend_111 rfl rfl ?_
              refine mw_iadd hX dX2_lend_112 ?_
              refine mw_iastore hX (j := o) dX2_lend_113 (mw_Yl (by decide)) rfl rfl (by omega) (by decide) ?_
              refine mw_aload_n hX dX2_lend_114 rfl rfl ?_
              refine mw_getR hX (r := 53) dX2_lend_115 (mw_Yl (by decide)) mw_YM fl_X2_46 (by decide) (by decide) rfl rfl ?_
              refine mw_ic hX 1 dX2_lend_118 rfl ?_
              refine mw_iload_n hX dX2_lend_119 rfl rfl ?_
              refine mw_isub hX dX2_lend_120 ?_
              refine mw_dup2 hX dX2_lend_121 ?_
              refine mw_iaload hX (j := 1 - o) dX2_lend_122 (mw_Yl (by decide)) rfl (by rw [mw_n1]; exact pk_sub (by omega)) (by omega) (by decide) ?_
              refine mw_iload_n hX dX2_lend_123 rfl rfl ?_
              refine mw_isub hX dX2_lend_124 ?_
              refine mw_iastore hX (j := 1 - o) dX2_lend_125 (mw_Yl (by decide)) rfl (by rw [mw_n1]; exact pk_sub (by omega)) (by omega) (by decide) ?_
              refine mw_aload_n hX dX2_lend_126 rfl rfl ?_
              refine mw_getR hX (r := 49) dX2_lend_127 (mw_Yl (by decide)) mw_YM fl_X2_34 (by decide) (by decide) rfl rfl ?_
              refine mw_ic hX 2 dX2_lend_130 rfl ?_
              refine mw_iload_n hX dX2_lend_131 rfl rfl ?_
              refine mw_imul hX dX2_lend_132 ?_
              refine mw_iload_n hX dX2_lend_133 rfl rfl ?_
              refine mw_iadd hX dX2_lend_134 ?_
              refine mw_iaload hX (j := (2 * i) + o) dX2_lend_135 (mw_Yl (by decide)) rfl (by simp only [mw_n0, mw_n1, mw_n2, mw_n3, mw_n4, mw_n5, mw_n6, mw_n8, mw_n9, mw_n18, mw_n210, mw_n260, pk_mul, nI_add]) (by omega) (by decide) ?_
              exact mw_ireturn hX hE dX2_lend_136 (rfl) (by omega) (by omega)
            · exact absurd (by rw [mw_t0]; decide) h69
          · exact absurd h54 (fun q => q hq)
        · exact absurd (by rw [mw_t0]; decide) h37
set_option maxRecDepth 20000 in
theorem c_m_lendS (l : Launch) (I : mw_I) (i : Nat) (hi : i < 3) (o : Nat) (ho : o < 2) (a : Int32) (ha : okR a 1 100) (hq : ¬ a ≤ I 49 (2 * i + o)) (L : mw_L) : mw_CT l yX2_lend (.code yX2_lend cX2_lend 4 (some .int)) 4 0 0 [.ref 40, .int (nI i), .int (nI o), .int a] (mw_Y0, I, L) (.inl (some (.int 0), mw_Y0, mw_up I 40 19 2, L)) := by
  refine mw_enter RX2 rfl (by decide +kernel) (mw_cat rfl) (Nat.le_of_ble_eq_true rfl) (fun X hX hl hE hT hnm => ?_)
  subst hl
  show mw_G X 0 [some (.ref 40), some (.int (nI i)), some (.int (nI o)), some (.int a)] [] mw_Y0 I L 0 0
  refine mw_aload_n hX dX2_lend_0 rfl rfl ?_
  refine mw_iload_n hX dX2_lend_1 rfl rfl ?_
  refine mw_cS hX [_] ws_X2_72 dX2_lend_2 (c_isPlant (mw_l X) (nI i) (okR_nI (n := 2) (by decide) hi) mw_Y0 I L) rfl (by omega) (by omega) (by omega) (Nat.le_of_ble_eq_true rfl) ?_
  refine mw_if_eq hX (tgt := 29) dX2_lend_5 (by decide) (fun h5 => ?_) (fun h5 => ?_)
  · exact absurd h5 (by decide)
  · refine mw_iload_n hX dX2_lend_8 rfl rfl ?_
    refine mw_cS hX [_] ws_X2_76 dX2_lend_9 (c_isOwner (mw_l X) (nI o) (okR_nI (n := 1) (by decide) ho) mw_Y0 I L) rfl (by omega) (by omega) (by omega) (Nat.le_of_ble_eq_true rfl) ?_
    refine mw_if_eq hX (tgt := 29) dX2_lend_12 (by decide) (fun h12 => ?_) (fun h12 => ?_)
    · exact absurd h12 (by decide)
    · refine mw_iload_n hX dX2_lend_15 rfl rfl ?_
      refine mw_ic hX 1 dX2_lend_16 rfl ?_
      refine mw_bp hX 100 dX2_lend_17 rfl ?_
      refine mw_cS hX [_, _, _] ws_X2_68 dX2_lend_19 (c_isIn (mw_l X) a 1 100 ha mw_Y0 I L) rfl (by omega) (by omega) (by omega) (Nat.le_of_ble_eq_true rfl) ?_
      refine mw_if_eq hX (tgt := 29) dX2_lend_22 (by decide) (fun h22 => ?_) (fun h22 => ?_)
      · exact absurd h22 (by decide)
      · refine mw_ic hX 0 dX2_lend_25 rfl ?_
        refine mw_goto hX (tgt := 30) dX2_lend_26 (by decide) ?_
        refine mw_putI hX dX2_lend_30 (mw_Yl (by decide)) mw_YM fl_X2_64 (by decide) (by decide) rfl ?_
        refine mw_aload_n hX dX2_lend_33 rfl rfl ?_
        refine mw_getI hX dX2_lend_34 (mw_Yl (by decide)) mw_YM fl_X2_64 (by decide) (by decide) rfl ?_
        refine mw_if_le hX (tgt := 42) dX2_lend_37 (by decide) (fun h37 => ?_) (fun h37 => ?_)
        · refine mw_aload_n hX dX2_lend_42 rfl rfl ?_
          refine mw_aload_n hX dX2_lend_43 rfl rfl ?_
          refine mw_getR hX (r := 49) dX2_lend_44 (mw_Yl (by decide)) mw_YM fl_X2_34 (by decide) (by decide) rfl rfl ?_
          refine mw_ic hX 2 dX2_lend_47 rfl ?_
          refine mw_iload_n hX dX2_lend_48 rfl rfl ?_
          refine mw_imul hX dX2_lend_49 ?_
          refine mw_iload_n hX dX2_lend_50 rfl rfl ?_
          refine mw_iadd hX dX2_lend_51 ?_
          refine mw_iaload hX (j := (2 * i) + o) dX2_lend_52 (mw_Yl (by decide)) rfl (by simp only [mw_n0, mw_n1, mw_n2, mw_n3, mw_n4, mw_n5, mw_n6, mw_n8, mw_n9, mw_n18, mw_n210, mw_n260, pk_mul, nI_add]) (by omega) (by decide) ?_
          refine mw_iload_n hX dX2_lend_53 rfl rfl ?_
          refine mw_icmp_ge hX (tgt := 61) dX2_lend_54 (by decide) (fun h54 => ?_) (fun h54 => ?_)
          · exact absurd h54 hq
          · refine mw_ic hX 2 dX2_lend_57 rfl ?_
            refine mw_goto hX (tgt := 62) dX2_lend_58 (by decide) ?_
            refine mw_putI hX dX2_lend_62 (mw_Yl (by decide)) mw_YM fl_X2_64 (by decide) (by decide) rfl ?_
            rw [mw_tt]
            refine mw_aload_n hX dX2_lend_65 rfl rfl ?_
            refine mw_getI hX dX2_lend_66 (mw_Yl (by decide)) mw_YM fl_X2_64 (by decide) (by decide) rfl ?_
            refine mw_if_le hX (tgt := 74) dX2_lend_69 (by decide) (fun h69 => ?_) (fun h69 => ?_)
            · exact absurd h69 (by rw [mw_up_at]; decide)
            · refine mw_ic hX 0 dX2_lend_72 rfl ?_
              exact mw_ireturn hX hE dX2_lend_73 (rfl) (by omega) (by omega)
        · exact absurd (by rw [mw_t0]; decide) h37
set_option maxRecDepth 20000 in
theorem c_m_accountX (l : Launch) (p o : Int32) (h : ¬ (okR p 0 2 ∧ okR o 0 1)) (I : mw_I) (L : mw_L) : mw_CT l yX2_account (.code yX2_account cX2_account 3 (some .int)) 4 0 0 [.ref 40, .int p, .int o] (mw_Y0, I, L) (.inl (some (.int 0), mw_Y0, mw_up I 40 19 1, L)) := by
  refine mw_enter RX2 rfl (by decide +kernel) (mw_cat rfl) (Nat.le_of_ble_eq_true rfl) (fun X hX hl hE hT hnm => ?_)
  subst hl
  show mw_G X 0 [some (.ref 40), some (.int p), some (.int o)] [] mw_Y0 I L 0 0
  refine mw_aload_n hX dX2_account_0 rfl rfl ?_
  refine mw_iload_n hX dX2_account_1 rfl rfl ?_
  rcases Classical.em (okR p 0 2) with h2 | h2
  · refine mw_cS hX [_] ws_X2_72 dX2_account_2 (c_isPlant (mw_l X) p h2 mw_Y0 I L) rfl (by omega) (by omega) (by omega) (Nat.le_of_ble_eq_true rfl) ?_
    refine mw_if_eq hX (tgt := 19) dX2_account_5 (by decide) (fun h5 => ?_) (fun h5 => ?_)
    · exact absurd h5 (by decide)
    · refine mw_iload_n hX dX2_account_8 rfl rfl ?_
      rcases Classical.em (okR o 0 1) with h9 | h9
      · refine mw_cS hX [_] ws_X2_76 dX2_account_9 (c_isOwner (mw_l X) o h9 mw_Y0 I L) rfl (by omega) (by omega) (by omega) (Nat.le_of_ble_eq_true rfl) ?_
        refine mw_if_eq hX (tgt := 19) dX2_account_12 (by decide) (fun h12 => ?_) (fun h12 => ?_)
        · exact absurd h12 (by decide)
        · exact absurd ⟨h2, h9⟩ h
      · refine mw_cS hX [_] ws_X2_76 dX2_account_9 (c_isOwnerX (mw_l X) o h9 mw_Y0 I L) rfl (by omega) (by omega) (by omega) (Nat.le_of_ble_eq_true rfl) ?_
        refine mw_if_eq hX (tgt := 19) dX2_account_12 (by decide) (fun h12 => ?_) (fun h12 => ?_)
        · refine mw_ic hX 1 dX2_account_19 rfl ?_
          refine mw_putI hX dX2_account_20 (mw_Yl (by decide)) mw_YM fl_X2_64 (by decide) (by decide) rfl ?_
          refine mw_aload_n hX dX2_account_23 rfl rfl ?_
          refine mw_getI hX dX2_account_24 (mw_Yl (by decide)) mw_YM fl_X2_64 (by decide) (by decide) rfl ?_
          refine mw_if_le hX (tgt := 34) dX2_account_27 (by decide) (fun h27 => ?_) (fun h27 => ?_)
          · exact absurd h27 (by rw [mw_up_at]; decide)
          · refine mw_ic hX 0 dX2_account_30 rfl ?_
            refine mw_goto hX (tgt := 44) dX2_account_31 (by decide) ?_
            exact mw_ireturn hX hE dX2_account_44 (rfl) (by omega) (by omega)
        · exact absurd h12 (fun q => q rfl)
  · refine mw_cS hX [_] ws_X2_72 dX2_account_2 (c_isPlantX (mw_l X) p h2 mw_Y0 I L) rfl (by omega) (by omega) (by omega) (Nat.le_of_ble_eq_true rfl) ?_
    refine mw_if_eq hX (tgt := 19) dX2_account_5 (by decide) (fun h5 => ?_) (fun h5 => ?_)
    · refine mw_ic hX 1 dX2_account_19 rfl ?_
      refine mw_putI hX dX2_account_20 (mw_Yl (by decide)) mw_YM fl_X2_64 (by decide) (by decide) rfl ?_
      refine mw_aload_n hX dX2_account_23 rfl rfl ?_
      refine mw_getI hX dX2_account_24 (mw_Yl (by decide)) mw_YM fl_X2_64 (by decide) (by decide) rfl ?_
      refine mw_if_le hX (tgt := 34) dX2_account_27 (by decide) (fun h27 => ?_) (fun h27 => ?_)
      · exact absurd h27 (by rw [mw_up_at]; decide)
      · refine mw_ic hX 0 dX2_account_30 rfl ?_
        refine mw_goto hX (tgt := 44) dX2_account_31 (by decide) ?_
        exact mw_ireturn hX hE dX2_account_44 (rfl) (by omega) (by omega)
    · exact absurd h5 (fun q => q rfl)
set_option maxRecDepth 20000 in
theorem c_m_account (l : Launch) (i : Nat) (hi : i < 3) (o : Nat) (ho : o < 2) (I : mw_I) (L : mw_L) : mw_CT l yX2_account (.code yX2_account cX2_account 3 (some .int)) 4 0 0 [.ref 40, .int (nI i), .int (nI o)] (mw_Y0, I, L) (.inl (some (.int ((mw_up I 40 19 0) 49 (2 * i + o))), mw_Y0, mw_up I 40 19 0, L)) := by
  refine mw_enter RX2 rfl (by decide +kernel) (mw_cat rfl) (Nat.le_of_ble_eq_true rfl) (fun X hX hl hE hT hnm => ?_)
  subst hl
  show mw_G X 0 [some (.ref 40), some (.int (nI i)), some (.int (nI o))] [] mw_Y0 I L 0 0
  refine mw_aload_n hX dX2_account_0 rfl rfl ?_
  refine mw_iload_n hX dX2_account_1 rfl rfl ?_
  refine mw_cS hX [_] ws_X2_72 dX2_account_2 (c_isPlant (mw_l X) (nI i) (okR_nI (n := 2) (by decide) hi) mw_Y0 I L) rfl (by omega) (by omega) (by omega) (Nat.le_of_ble_eq_true rfl) ?_
  refine mw_if_eq hX (tgt := 19) dX2_account_5 (by decide) (fun h5 => ?_) (fun h5 => ?_)
  · exact absurd h5 (by decide)
  · refine mw_iload_n hX dX2_account_8 rfl rfl ?_
    refine mw_cS hX [_] ws_X2_76 dX2_account_9 (c_isOwner (mw_l X) (nI o) (okR_nI (n := 1) (by decide) ho) mw_Y0 I L) rfl (by omega) (by omega) (by omega) (Nat.le_of_ble_eq_true rfl) ?_
    refine mw_if_eq hX (tgt := 19) dX2_account_12 (by decide) (fun h12 => ?_) (fun h12 => ?_)
    · exact absurd h12 (by decide)
    · refine mw_ic hX 0 dX2_account_15 rfl ?_
      refine mw_goto hX (tgt := 20) dX2_account_16 (by decide) ?_
      refine mw_putI hX dX2_account_20 (mw_Yl (by decide)) mw_YM fl_X2_64 (by decide) (by decide) rfl ?_
      refine mw_aload_n hX dX2_account_23 rfl rfl ?_
      refine mw_getI hX dX2_account_24 (mw_Yl (by decide)) mw_YM fl_X2_64 (by decide) (by decide) rfl ?_
      refine mw_if_le hX (tgt := 34) dX2_account_27 (by decide) (fun h27 => ?_) (fun h27 => ?_)
      · refine mw_aload_n hX dX2_account_34 rfl rfl ?_
        refine mw_getR hX (r := 49) dX2_account_35 (mw_Yl (by decide)) mw_YM fl_X2_34 (by decide) (by decide) rfl rfl ?_
        refine mw_ic hX 2 dX2_account_38 rfl ?_
        refine mw_iload_n hX dX2_account_39 rfl rfl ?_
        refine mw_imul hX dX2_account_40 ?_
        refine mw_iload_n hX dX2_account_41 rfl rfl ?_
        refine mw_iadd hX dX2_account_42 ?_
        refine mw_iaload hX (j := (2 * i) + o) dX2_account_43 (mw_Yl (by decide)) rfl (by simp only [mw_n0, mw_n1, mw_n2, mw_n3, mw_n4, mw_n5, mw_n6, mw_n8, mw_n9, mw_n18, mw_n210, mw_n260, pk_mul, nI_add]) (by omega) (by decide) ?_
        exact mw_ireturn hX hE dX2_account_44 (rfl) (by omega) (by omega)
      · exact absurd (by rw [mw_t0]; decide) h27
set_option maxRecDepth 20000 in
theorem c_m_asks (l : Launch) (v : Int32) (h : okR v 0 2) (I : mw_I) (L : mw_L) : mw_CT l yX2_asks (.code yX2_asks cX2_asks 2 (some .boolean)) 3 0 0 [.ref 40, .int v] (mw_Y0, I, L) (.inl (some (.int 1), mw_Y0, mw_up I 40 19 0, L)) := by
  refine mw_enter RX2 rfl (by decide +kernel) (mw_cat rfl) (Nat.le_of_ble_eq_true rfl) (fun X hX hl hE hT hnm => ?_)
  subst hl
  show mw_G X 0 [some (.ref 40), some (.int v)] [] mw_Y0 I L 0 0
  refine mw_aload_n hX dX2_asks_0 rfl rfl ?_
  refine mw_iload_n hX dX2_asks_1 rfl rfl ?_
  refine mw_cS hX [_] ws_X2_72 dX2_asks_2 (c_isPlant (mw_l X) v h mw_Y0 I L) rfl (by omega) (by omega) (by omega) (Nat.le_of_ble_eq_true rfl) ?_
  refine mw_if_eq hX (tgt := 12) dX2_asks_5 (by decide) (fun h5 => ?_) (fun h5 => ?_)
  · exact absurd h5 (by decide)
  · refine mw_ic hX 0 dX2_asks_8 rfl ?_
    refine mw_goto hX (tgt := 13) dX2_asks_9 (by decide) ?_
    refine mw_putI hX dX2_asks_13 (mw_Yl (by decide)) mw_YM fl_X2_64 (by decide) (by decide) rfl ?_
    refine mw_aload_n hX dX2_asks_16 rfl rfl ?_
    refine mw_getI hX dX2_asks_17 (mw_Yl (by decide)) mw_YM fl_X2_64 (by decide) (by decide) rfl ?_
    refine mw_if_ne hX (tgt := 27) dX2_asks_20 (by decide) (fun h20 => ?_) (fun h20 => ?_)
    · exact absurd mw_t0 h20
    · refine mw_ic hX 1 dX2_asks_23 rfl ?_
      refine mw_goto hX (tgt := 28) dX2_asks_24 (by decide) ?_
      exact mw_zreturn hX hE dX2_asks_28 (rfl) (by first | exact Or.inl rfl | exact Or.inr rfl) (by omega) (by omega)
set_option maxRecDepth 20000 in
theorem c_m_asksX (l : Launch) (v : Int32) (h : ¬ okR v 0 2) (I : mw_I) (L : mw_L) : mw_CT l yX2_asks (.code yX2_asks cX2_asks 2 (some .boolean)) 3 0 0 [.ref 40, .int v] (mw_Y0, I, L) (.inl (some (.int 0), mw_Y0, mw_up I 40 19 1, L)) := by
  refine mw_enter RX2 rfl (by decide +kernel) (mw_cat rfl) (Nat.le_of_ble_eq_true rfl) (fun X hX hl hE hT hnm => ?_)
  subst hl
  show mw_G X 0 [some (.ref 40), some (.int v)] [] mw_Y0 I L 0 0
  refine mw_aload_n hX dX2_asks_0 rfl rfl ?_
  refine mw_iload_n hX dX2_asks_1 rfl rfl ?_
  refine mw_cS hX [_] ws_X2_72 dX2_asks_2 (c_isPlantX (mw_l X) v h mw_Y0 I L) rfl (by omega) (by omega) (by omega) (Nat.le_of_ble_eq_true rfl) ?_
  refine mw_if_eq hX (tgt := 12) dX2_asks_5 (by decide) (fun h5 => ?_) (fun h5 => ?_)
  · refine mw_ic hX 1 dX2_asks_12 rfl ?_
    refine mw_putI hX dX2_asks_13 (mw_Yl (by decide)) mw_YM fl_X2_64 (by decide) (by decide) rfl ?_
    refine mw_aload_n hX dX2_asks_16 rfl rfl ?_
    refine mw_getI hX dX2_asks_17 (mw_Yl (by decide)) mw_YM fl_X2_64 (by decide) (by decide) rfl ?_
    refine mw_if_ne hX (tgt := 27) dX2_asks_20 (by decide) (fun h20 => ?_) (fun h20 => ?_)
    · refine mw_ic hX 0 dX2_asks_27 rfl ?_
      exact mw_zreturn hX hE dX2_asks_28 (rfl) (by first | exact Or.inl rfl | exact Or.inr rfl) (by omega) (by omega)
    · exact absurd h20 (by rw [mw_up_at]; decide)
  · exact absurd h5 (fun q => q rfl)
set_option maxRecDepth 20000 in
theorem c_m_knows (l : Launch) (v : Int32) (h : okR v 0 1) (I : mw_I) (L : mw_L) : mw_CT l yX2_knows (.code yX2_knows cX2_knows 2 (some .boolean)) 3 0 0 [.ref 40, .int v] (mw_Y0, I, L) (.inl (some (.int 1), mw_Y0, mw_up I 40 19 0, L)) := by
  refine mw_enter RX2 rfl (by decide +kernel) (mw_cat rfl) (Nat.le_of_ble_eq_true rfl) (fun X hX hl hE hT hnm => ?_)
  subst hl
  show mw_G X 0 [some (.ref 40), some (.int v)] [] mw_Y0 I L 0 0
  refine mw_aload_n hX dX2_knows_0 rfl rfl ?_
  refine mw_iload_n hX dX2_knows_1 rfl rfl ?_
  refine mw_cS hX [_] ws_X2_76 dX2_knows_2 (c_isOwner (mw_l X) v h mw_Y0 I L) rfl (by omega) (by omega) (by omega) (Nat.le_of_ble_eq_true rfl) ?_
  refine mw_if_eq hX (tgt := 12) dX2_knows_5 (by decide) (fun h5 => ?_) (fun h5 => ?_)
  · exact absurd h5 (by decide)
  · refine mw_ic hX 0 dX2_knows_8 rfl ?_
    refine mw_goto hX (tgt := 13) dX2_knows_9 (by decide) ?_
    refine mw_putI hX dX2_knows_13 (mw_Yl (by decide)) mw_YM fl_X2_64 (by decide) (by decide) rfl ?_
    refine mw_aload_n hX dX2_knows_16 rfl rfl ?_
    refine mw_getI hX dX2_knows_17 (mw_Yl (by decide)) mw_YM fl_X2_64 (by decide) (by decide) rfl ?_
    refine mw_if_ne hX (tgt := 27) dX2_knows_20 (by decide) (fun h20 => ?_) (fun h20 => ?_)
    · exact absurd mw_t0 h20
    · refine mw_ic hX 1 dX2_knows_23 rfl ?_
      refine mw_goto hX (tgt := 28) dX2_knows_24 (by decide) ?_
      exact mw_zreturn hX hE dX2_knows_28 (rfl) (by first | exact Or.inl rfl | exact Or.inr rfl) (by omega) (by omega)
set_option maxRecDepth 20000 in
theorem c_m_knowsX (l : Launch) (v : Int32) (h : ¬ okR v 0 1) (I : mw_I) (L : mw_L) : mw_CT l yX2_knows (.code yX2_knows cX2_knows 2 (some .boolean)) 3 0 0 [.ref 40, .int v] (mw_Y0, I, L) (.inl (some (.int 0), mw_Y0, mw_up I 40 19 1, L)) := by
  refine mw_enter RX2 rfl (by decide +kernel) (mw_cat rfl) (Nat.le_of_ble_eq_true rfl) (fun X hX hl hE hT hnm => ?_)
  subst hl
  show mw_G X 0 [some (.ref 40), some (.int v)] [] mw_Y0 I L 0 0
  refine mw_aload_n hX dX2_knows_0 rfl rfl ?_
  refine mw_iload_n hX dX2_knows_1 rfl rfl ?_
  refine mw_cS hX [_] ws_X2_76 dX2_knows_2 (c_isOwnerX (mw_l X) v h mw_Y0 I L) rfl (by omega) (by omega) (by omega) (Nat.le_of_ble_eq_true rfl) ?_
  refine mw_if_eq hX (tgt := 12) dX2_knows_5 (by decide) (fun h5 => ?_) (fun h5 => ?_)
  · refine mw_ic hX 1 dX2_knows_12 rfl ?_
    refine mw_putI hX dX2_knows_13 (mw_Yl (by decide)) mw_YM fl_X2_64 (by decide) (by decide) rfl ?_
    refine mw_aload_n hX dX2_knows_16 rfl rfl ?_
    refine mw_getI hX dX2_knows_17 (mw_Yl (by decide)) mw_YM fl_X2_64 (by decide) (by decide) rfl ?_
    refine mw_if_ne hX (tgt := 27) dX2_knows_20 (by decide) (fun h20 => ?_) (fun h20 => ?_)
    · refine mw_ic hX 0 dX2_knows_27 rfl ?_
      exact mw_zreturn hX hE dX2_knows_28 (rfl) (by first | exact Or.inl rfl | exact Or.inr rfl) (by omega) (by omega)
    · exact absurd h20 (by rw [mw_up_at]; decide)
  · exact absurd h5 (fun q => q rfl)
set_option maxRecDepth 20000 in
theorem c_m_level (l : Launch) (i : Nat) (hi : i < 3) (I : mw_I) (L : mw_L) : mw_CT l yX2_level (.code yX2_level cX2_level 2 (some .int)) 4 0 0 [.ref 40, .int (nI i)] (mw_Y0, I, L) (.inl (some (.int (filledV (mw_up I 40 19 0) i)), mw_Y0, mw_up I 40 19 0, L)) := by
  refine mw_enter RX2 rfl (by decide +kernel) (mw_cat rfl) (Nat.le_of_ble_eq_true rfl) (fun X hX hl hE hT hnm => ?_)
  subst hl
  show mw_G X 0 [some (.ref 40), some (.int (nI i))] [] mw_Y0 I L 0 0
  refine mw_aload_n hX dX2_level_0 rfl rfl ?_
  refine mw_iload_n hX dX2_level_1 rfl rfl ?_
  refine mw_cV hX [_] ws_X2_101 dX2_level_2 (c_m_asks (mw_l X) (nI i) (okR_nI (n := 2) (by decide) hi) I L) (mw_Yl (by decide)) mw_YM (by decide) rfl (by omega) (by omega) (by omega) (Nat.le_of_ble_eq_true rfl) ?_
  refine mw_if_eq hX (tgt := 16) dX2_level_5 (by decide) (fun h5 => ?_) (fun h5 => ?_)
  · exact absurd h5 (by decide)
  · refine mw_aload_n hX dX2_level_8 rfl rfl ?_
    refine mw_iload_n hX dX2_level_9 rfl rfl ?_
    refine mw_cV hX [_] ws_X2_82 dX2_level_10 (c_m_filled (mw_l X) i hi _ L) (mw_Yl (by decide)) mw_YM (by decide) rfl (by omega) (by omega) (by omega) (Nat.le_of_ble_eq_true rfl) ?_
    refine mw_goto hX (tgt := 17) dX2_level_13 (by decide) ?_
    exact mw_ireturn hX hE dX2_level_17 (rfl) (by omega) (by omega)
set_option maxRecDepth 20000 in
theorem c_m_levelX (l : Launch) (v : Int32) (h : ¬ okR v 0 2) (I : mw_I) (L : mw_L) : mw_CT l yX2_level (.code yX2_level cX2_level 2 (some .int)) 4 0 0 [.ref 40, .int v] (mw_Y0, I, L) (.inl (some (.int 0), mw_Y0, mw_up I 40 19 1, L)) := by
  refine mw_enter RX2 rfl (by decide +kernel) (mw_cat rfl) (Nat.le_of_ble_eq_true rfl) (fun X hX hl hE hT hnm => ?_)
  subst hl
  show mw_G X 0 [some (.ref 40), some (.int v)] [] mw_Y0 I L 0 0
  refine mw_aload_n hX dX2_level_0 rfl rfl ?_
  refine mw_iload_n hX dX2_level_1 rfl rfl ?_
  refine mw_cV hX [_] ws_X2_101 dX2_level_2 (c_m_asksX (mw_l X) v h I L) (mw_Yl (by decide)) mw_YM (by decide) rfl (by omega) (by omega) (by omega) (Nat.le_of_ble_eq_true rfl) ?_
  refine mw_if_eq hX (tgt := 16) dX2_level_5 (by decide) (fun h5 => ?_) (fun h5 => ?_)
  · refine mw_ic hX 0 dX2_level_16 rfl ?_
    exact mw_ireturn hX hE dX2_level_17 (rfl) (by omega) (by omega)
  · exact absurd h5 (fun q => q rfl)
set_option maxRecDepth 20000 in
theorem c_m_cameIn (l : Launch) (o : Nat) (ho : o < 2) (I : mw_I) (L : mw_L) : mw_CT l yX2_cameIn (.code yX2_cameIn cX2_cameIn 2 (some .int)) 4 0 0 [.ref 40, .int (nI o)] (mw_Y0, I, L) (.inl (some (.int ((mw_up I 40 19 0) 51 o)), mw_Y0, mw_up I 40 19 0, L)) := by
  refine mw_enter RX2 rfl (by decide +kernel) (mw_cat rfl) (Nat.le_of_ble_eq_true rfl) (fun X hX hl hE hT hnm => ?_)
  subst hl
  show mw_G X 0 [some (.ref 40), some (.int (nI o))] [] mw_Y0 I L 0 0
  refine mw_aload_n hX dX2_cameIn_0 rfl rfl ?_
  refine mw_iload_n hX dX2_cameIn_1 rfl rfl ?_
  refine mw_cV hX [_] ws_X2_104 dX2_cameIn_2 (c_m_knows (mw_l X) (nI o) (okR_nI (n := 1) (by decide) ho) I L) (mw_Yl (by decide)) mw_YM (by decide) rfl (by omega) (by omega) (by omega) (Nat.le_of_ble_eq_true rfl) ?_
  refine mw_if_eq hX (tgt := 17) dX2_cameIn_5 (by decide) (fun h5 => ?_) (fun h5 => ?_)
  · exact absurd h5 (by decide)
  · refine mw_aload_n hX dX2_cameIn_8 rfl rfl ?_
    refine mw_getR hX (r := 51) dX2_cameIn_9 (mw_Yl (by decide)) mw_YM fl_X2_40 (by decide) (by decide) rfl rfl ?_
    refine mw_iload_n hX dX2_cameIn_12 rfl rfl ?_
    refine mw_iaload hX (j := o) dX2_cameIn_13 (mw_Yl (by decide)) rfl rfl (by omega) (by decide) ?_
    refine mw_goto hX (tgt := 18) dX2_cameIn_14 (by decide) ?_
    exact mw_ireturn hX hE dX2_cameIn_18 (rfl) (by omega) (by omega)
set_option maxRecDepth 20000 in
theorem c_m_cameInX (l : Launch) (v : Int32) (h : ¬ okR v 0 1) (I : mw_I) (L : mw_L) : mw_CT l yX2_cameIn (.code yX2_cameIn cX2_cameIn 2 (some .int)) 4 0 0 [.ref 40, .int v] (mw_Y0, I, L) (.inl (some (.int 0), mw_Y0, mw_up I 40 19 1, L)) := by
  refine mw_enter RX2 rfl (by decide +kernel) (mw_cat rfl) (Nat.le_of_ble_eq_true rfl) (fun X hX hl hE hT hnm => ?_)
  subst hl
  show mw_G X 0 [some (.ref 40), some (.int v)] [] mw_Y0 I L 0 0
  refine mw_aload_n hX dX2_cameIn_0 rfl rfl ?_
  refine mw_iload_n hX dX2_cameIn_1 rfl rfl ?_
  refine mw_cV hX [_] ws_X2_104 dX2_cameIn_2 (c_m_knowsX (mw_l X) v h I L) (mw_Yl (by decide)) mw_YM (by decide) rfl (by omega) (by omega) (by omega) (Nat.le_of_ble_eq_true rfl) ?_
  refine mw_if_eq hX (tgt := 17) dX2_cameIn_5 (by decide) (fun h5 => ?_) (fun h5 => ?_)
  · refine mw_ic hX 0 dX2_cameIn_17 rfl ?_
    exact mw_ireturn hX hE dX2_cameIn_18 (rfl) (by omega) (by omega)
  · exact absurd h5 (fun q => q rfl)
set_option maxRecDepth 20000 in
theorem c_m_gone (l : Launch) (o : Nat) (ho : o < 2) (I : mw_I) (L : mw_L) : mw_CT l yX2_gone (.code yX2_gone cX2_gone 2 (some .int)) 4 0 0 [.ref 40, .int (nI o)] (mw_Y0, I, L) (.inl (some (.int ((mw_up I 40 19 0) 52 o)), mw_Y0, mw_up I 40 19 0, L)) := by
  refine mw_enter RX2 rfl (by decide +kernel) (mw_cat rfl) (Nat.le_of_ble_eq_true rfl) (fun X hX hl hE hT hnm => ?_)
  subst hl
  show mw_G X 0 [some (.ref 40), some (.int (nI o))] [] mw_Y0 I L 0 0
  refine mw_aload_n hX dX2_gone_0 rfl rfl ?_
  refine mw_iload_n hX dX2_gone_1 rfl rfl ?_
  refine mw_cV hX [_] ws_X2_104 dX2_gone_2 (c_m_knows (mw_l X) (nI o) (okR_nI (n := 1) (by decide) ho) I L) (mw_Yl (by decide)) mw_YM (by decide) rfl (by omega) (by omega) (by omega) (Nat.le_of_ble_eq_true rfl) ?_
  refine mw_if_eq hX (tgt := 17) dX2_gone_5 (by decide) (fun h5 => ?_) (fun h5 => ?_)
  · exact absurd h5 (by decide)
  · refine mw_aload_n hX dX2_gone_8 rfl rfl ?_
    refine mw_getR hX (r := 52) dX2_gone_9 (mw_Yl (by decide)) mw_YM fl_X2_43 (by decide) (by decide) rfl rfl ?_
    refine mw_iload_n hX dX2_gone_12 rfl rfl ?_
    refine mw_iaload hX (j := o) dX2_gone_13 (mw_Yl (by decide)) rfl rfl (by omega) (by decide) ?_
    refine mw_goto hX (tgt := 18) dX2_gone_14 (by decide) ?_
    exact mw_ireturn hX hE dX2_gone_18 (rfl) (by omega) (by omega)
set_option maxRecDepth 20000 in
theorem c_m_goneX (l : Launch) (v : Int32) (h : ¬ okR v 0 1) (I : mw_I) (L : mw_L) : mw_CT l yX2_gone (.code yX2_gone cX2_gone 2 (some .int)) 4 0 0 [.ref 40, .int v] (mw_Y0, I, L) (.inl (some (.int 0), mw_Y0, mw_up I 40 19 1, L)) := by
  refine mw_enter RX2 rfl (by decide +kernel) (mw_cat rfl) (Nat.le_of_ble_eq_true rfl) (fun X hX hl hE hT hnm => ?_)
  subst hl
  show mw_G X 0 [some (.ref 40), some (.int v)] [] mw_Y0 I L 0 0
  refine mw_aload_n hX dX2_gone_0 rfl rfl ?_
  refine mw_iload_n hX dX2_gone_1 rfl rfl ?_
  refine mw_cV hX [_] ws_X2_104 dX2_gone_2 (c_m_knowsX (mw_l X) v h I L) (mw_Yl (by decide)) mw_YM (by decide) rfl (by omega) (by omega) (by omega) (Nat.le_of_ble_eq_true rfl) ?_
  refine mw_if_eq hX (tgt := 17) dX2_gone_5 (by decide) (fun h5 => ?_) (fun h5 => ?_)
  · refine mw_ic hX 0 dX2_gone_17 rfl ?_
    exact mw_ireturn hX hE dX2_gone_18 (rfl) (by omega) (by omega)
  · exact absurd h5 (fun q => q rfl)
set_option maxRecDepth 20000 in
theorem c_m_balance (l : Launch) (o : Nat) (ho : o < 2) (I : mw_I) (L : mw_L) : mw_CT l yX2_balance (.code yX2_balance cX2_balance 2 (some .int)) 4 0 0 [.ref 40, .int (nI o)] (mw_Y0, I, L) (.inl (some (.int ((mw_up I 40 19 0) 51 o - (mw_up I 40 19 0) 52 o - (mw_up I 40 19 0) 53 o)), mw_Y0, mw_up I 40 19 0, L)) := by
  refine mw_enter RX2 rfl (by decide +kernel) (mw_cat rfl) (Nat.le_of_ble_eq_true rfl) (fun X hX hl hE hT hnm => ?_)
  subst hl
  show mw_G X 0 [some (.ref 40), some (.int (nI o))] [] mw_Y0 I L 0 0
  refine mw_aload_n hX dX2_balance_0 rfl rfl ?_
  refine mw_iload_n hX dX2_balance_1 rfl rfl ?_
  refine mw_cV hX [_] ws_X2_104 dX2_balance_2 (c_m_knows (mw_l X) (nI o) (okR_nI (n := 1) (by decide) ho) I L) (mw_Yl (by decide)) mw_YM (by decide) rfl (by omega) (by omega) (by omega) (Nat.le_of_ble_eq_true rfl) ?_
  refine mw_if_eq hX (tgt := 31) dX2_balance_5 (by decide) (fun h5 => ?_) (fun h5 => ?_)
  · exact absurd h5 (by decide)
  · refine mw_aload_n hX dX2_balance_8 rfl rfl ?_
    refine mw_getR hX (r := 51) dX2_balance_9 (mw_Yl (by decide)) mw_YM fl_X2_40 (by decide) (by decide) rfl rfl ?_
    refine mw_iload_n hX dX2_balance_12 rfl rfl ?_
    refine mw_iaload hX (j := o) dX2_balance_13 (mw_Yl (by decide)) rfl rfl (by omega) (by decide) ?_
    refine mw_aload_n hX dX2_balance_14 rfl rfl ?_
    refine mw_getR hX (r := 52) dX2_balance_15 (mw_Yl (by decide)) mw_YM fl_X2_43 (by decide) (by decide) rfl rfl ?_
    refine mw_iload_n hX dX2_balance_18 rfl rfl ?_
    refine mw_iaload hX (j := o) dX2_balance_19 (mw_Yl (by decide)) rfl rfl (by omega) (by decide) ?_
    refine mw_isub hX dX2_balance_20 ?_
    refine mw_aload_n hX dX2_balance_21 rfl rfl ?_
    refine mw_getR hX (r := 53) dX2_balance_22 (mw_Yl (by decide)) mw_YM fl_X2_46 (by decide) (by decide) rfl rfl ?_
    refine mw_iload_n hX dX2_balance_25 rfl rfl ?_
    refine mw_iaload hX (j := o) dX2_balance_26 (mw_Yl (by decide)) rfl rfl (by omega) (by decide) ?_
    refine mw_isub hX dX2_balance_27 ?_
    refine mw_goto hX (tgt := 32) dX2_balance_28 (by decide) ?_
    exact mw_ireturn hX hE dX2_balance_32 (rfl) (by omega) (by omega)
set_option maxRecDepth 20000 in
theorem c_m_balanceX (l : Launch) (v : Int32) (h : ¬ okR v 0 1) (I : mw_I) (L : mw_L) : mw_CT l yX2_balance (.code yX2_balance cX2_balance 2 (some .int)) 4 0 0 [.ref 40, .int v] (mw_Y0, I, L) (.inl (some (.int 0), mw_Y0, mw_up I 40 19 1, L)) := by
  refine mw_enter RX2 rfl (by decide +kernel) (mw_cat rfl) (Nat.le_of_ble_eq_true rfl) (fun X hX hl hE hT hnm => ?_)
  subst hl
  show mw_G X 0 [some (.ref 40), some (.int v)] [] mw_Y0 I L 0 0
  refine mw_aload_n hX dX2_balance_0 rfl rfl ?_
  refine mw_iload_n hX dX2_balance_1 rfl rfl ?_
  refine mw_cV hX [_] ws_X2_104 dX2_balance_2 (c_m_knowsX (mw_l X) v h I L) (mw_Yl (by decide)) mw_YM (by decide) rfl (by omega) (by omega) (by omega) (Nat.le_of_ble_eq_true rfl) ?_
  refine mw_if_eq hX (tgt := 31) dX2_balance_5 (by decide) (fun h5 => ?_) (fun h5 => ?_)
  · refine mw_ic hX 0 dX2_balance_31 rfl ?_
    exact mw_ireturn hX hE dX2_balance_32 (rfl) (by omega) (by omega)
  · exact absurd h5 (fun q => q rfl)
set_option maxRecDepth 20000 in
theorem c_m_spilled (l : Launch) (i : Nat) (hi : i < 3) (I : mw_I) (L : mw_L) : mw_CT l yX2_spilled (.code yX2_spilled cX2_spilled 2 (some .int)) 4 0 0 [.ref 40, .int (nI i)] (mw_Y0, I, L) (.inl (some (.int ((mw_up I 40 19 0) 54 i)), mw_Y0, mw_up I 40 19 0, L)) := by
  refine mw_enter RX2 rfl (by decide +kernel) (mw_cat rfl) (Nat.le_of_ble_eq_true rfl) (fun X hX hl hE hT hnm => ?_)
  subst hl
  show mw_G X 0 [some (.ref 40), some (.int (nI i))] [] mw_Y0 I L 0 0
  refine mw_aload_n hX dX2_spilled_0 rfl rfl ?_
  refine mw_iload_n hX dX2_spilled_1 rfl rfl ?_
  refine mw_cV hX [_] ws_X2_101 dX2_spilled_2 (c_m_asks (mw_l X) (nI i) (okR_nI (n := 2) (by decide) hi) I L) (mw_Yl (by decide)) mw_YM (by decide) rfl (by omega) (by omega) (by omega) (Nat.le_of_ble_eq_true rfl) ?_
  refine mw_if_eq hX (tgt := 17) dX2_spilled_5 (by decide) (fun h5 => ?_) (fun h5 => ?_)
  · exact absurd h5 (by decide)
  · refine mw_aload_n hX dX2_spilled_8 rfl rfl ?_
    refine mw_getR hX (r := 54) dX2_spilled_9 (mw_Yl (by decide)) mw_YM fl_X2_49 (by decide) (by decide) rfl rfl ?_
    refine mw_iload_n hX dX2_spilled_12 rfl rfl ?_
    refine mw_iaload hX (j := i) dX2_spilled_13 (mw_Yl (by decide)) rfl rfl (by omega) (by decide) ?_
    refine mw_goto hX (tgt := 18) dX2_spilled_14 (by decide) ?_
    exact mw_ireturn hX hE dX2_spilled_18 (rfl) (by omega) (by omega)
set_option maxRecDepth 20000 in
theorem c_m_spilledX (l : Launch) (v : Int32) (h : ¬ okR v 0 2) (I : mw_I) (L : mw_L) : mw_CT l yX2_spilled (.code yX2_spilled cX2_spilled 2 (some .int)) 4 0 0 [.ref 40, .int v] (mw_Y0, I, L) (.inl (some (.int 0), mw_Y0, mw_up I 40 19 1, L)) := by
  refine mw_enter RX2 rfl (by decide +kernel) (mw_cat rfl) (Nat.le_of_ble_eq_true rfl) (fun X hX hl hE hT hnm => ?_)
  subst hl
  show mw_G X 0 [some (.ref 40), some (.int v)] [] mw_Y0 I L 0 0
  refine mw_aload_n hX dX2_spilled_0 rfl rfl ?_
  refine mw_iload_n hX dX2_spilled_1 rfl rfl ?_
  refine mw_cV hX [_] ws_X2_101 dX2_spilled_2 (c_m_asksX (mw_l X) v h I L) (mw_Yl (by decide)) mw_YM (by decide) rfl (by omega) (by omega) (by omega) (Nat.le_of_ble_eq_true rfl) ?_
  refine mw_if_eq hX (tgt := 17) dX2_spilled_5 (by decide) (fun h5 => ?_) (fun h5 => ?_)
  · refine mw_ic hX 0 dX2_spilled_17 rfl ?_
    exact mw_ireturn hX hE dX2_spilled_18 (rfl) (by omega) (by omega)
  · exact absurd h5 (fun q => q rfl)
set_option maxRecDepth 20000 in
theorem c_m_missed (l : Launch) (i : Nat) (hi : i < 3) (I : mw_I) (L : mw_L) : mw_CT l yX2_missed (.code yX2_missed cX2_missed 2 (some .int)) 4 0 0 [.ref 40, .int (nI i)] (mw_Y0, I, L) (.inl (some (.int ((mw_up I 40 19 0) 55 i)), mw_Y0, mw_up I 40 19 0, L)) := by
  refine mw_enter RX2 rfl (by decide +kernel) (mw_cat rfl) (Nat.le_of_ble_eq_true rfl) (fun X hX hl hE hT hnm => ?_)
  subst hl
  show mw_G X 0 [some (.ref 40), some (.int (nI i))] [] mw_Y0 I L 0 0
  refine mw_aload_n hX dX2_missed_0 rfl rfl ?_
  refine mw_iload_n hX dX2_missed_1 rfl rfl ?_
  refine mw_cV hX [_] ws_X2_101 dX2_missed_2 (c_m_asks (mw_l X) (nI i) (okR_nI (n := 2) (by decide) hi) I L) (mw_Yl (by decide)) mw_YM (by decide) rfl (by omega) (by omega) (by omega) (Nat.le_of_ble_eq_true rfl) ?_
  refine mw_if_eq hX (tgt := 17) dX2_missed_5 (by decide) (fun h5 => ?_) (fun h5 => ?_)
  · exact absurd h5 (by decide)
  · refine mw_aload_n hX dX2_missed_8 rfl rfl ?_
    refine mw_getR hX (r := 55) dX2_missed_9 (mw_Yl (by decide)) mw_YM fl_X2_52 (by decide) (by decide) rfl rfl ?_
    refine mw_iload_n hX dX2_missed_12 rfl rfl ?_
    refine mw_iaload hX (j := i) dX2_missed_13 (mw_Yl (by decide)) rfl rfl (by omega) (by decide) ?_
    refine mw_goto hX (tgt := 18) dX2_missed_14 (by decide) ?_
    exact mw_ireturn hX hE dX2_missed_18 (rfl) (by omega) (by omega)
set_option maxRecDepth 20000 in
theorem c_m_missedX (l : Launch) (v : Int32) (h : ¬ okR v 0 2) (I : mw_I) (L : mw_L) : mw_CT l yX2_missed (.code yX2_missed cX2_missed 2 (some .int)) 4 0 0 [.ref 40, .int v] (mw_Y0, I, L) (.inl (some (.int 0), mw_Y0, mw_up I 40 19 1, L)) := by
  refine mw_enter RX2 rfl (by decide +kernel) (mw_cat rfl) (Nat.le_of_ble_eq_true rfl) (fun X hX hl hE hT hnm => ?_)
  subst hl
  show mw_G X 0 [some (.ref 40), some (.int v)] [] mw_Y0 I L 0 0
  refine mw_aload_n hX dX2_missed_0 rfl rfl ?_
  refine mw_iload_n hX dX2_missed_1 rfl rfl ?_
  refine mw_cV hX [_] ws_X2_101 dX2_missed_2 (c_m_asksX (mw_l X) v h I L) (mw_Yl (by decide)) mw_YM (by decide) rfl (by omega) (by omega) (by omega) (Nat.le_of_ble_eq_true rfl) ?_
  refine mw_if_eq hX (tgt := 17) dX2_missed_5 (by decide) (fun h5 => ?_) (fun h5 => ?_)
  · refine mw_ic hX 0 dX2_missed_17 rfl ?_
    exact mw_ireturn hX hE dX2_missed_18 (rfl) (by omega) (by omega)
  · exact absurd h5 (fun q => q rfl)
set_option maxRecDepth 20000 in
theorem c_m_flow (l : Launch) (i : Nat) (hi : i < 3) (I : mw_I) (L : mw_L) : mw_CT l yX2_flow (.code yX2_flow cX2_flow 2 (some .int)) 4 0 0 [.ref 40, .int (nI i)] (mw_Y0, I, L) (.inl (some (.int ((mw_up I 40 19 0) 56 i)), mw_Y0, mw_up I 40 19 0, L)) := by
  refine mw_enter RX2 rfl (by decide +kernel) (mw_cat rfl) (Nat.le_of_ble_eq_true rfl) (fun X hX hl hE hT hnm => ?_)
  subst hl
  show mw_G X 0 [some (.ref 40), some (.int (nI i))] [] mw_Y0 I L 0 0
  refine mw_aload_n hX dX2_flow_0 rfl rfl ?_
  refine mw_iload_n hX dX2_flow_1 rfl rfl ?_
  refine mw_cV hX [_] ws_X2_101 dX2_flow_2 (c_m_asks (mw_l X) (nI i) (okR_nI (n := 2) (by decide) hi) I L) (mw_Yl (by decide)) mw_YM (by decide) rfl (by omega) (by omega) (by omega) (Nat.le_of_ble_eq_true rfl) ?_
  refine mw_if_eq hX (tgt := 17) dX2_flow_5 (by decide) (fun h5 => ?_) (fun h5 => ?_)
  · exact absurd h5 (by decide)
  · refine mw_aload_n hX dX2_flow_8 rfl rfl ?_
    refine mw_getR hX (r := 56) dX2_flow_9 (mw_Yl (by decide)) mw_YM fl_X2_55 (by decide) (by decide) rfl rfl ?_
    refine mw_iload_n hX dX2_flow_12 rfl rfl ?_
    refine mw_iaload hX (j := i) dX2_flow_13 (mw_Yl (by decide)) rfl rfl (by omega) (by decide) ?_
    refine mw_goto hX (tgt := 18) dX2_flow_14 (by decide) ?_
    exact mw_ireturn hX hE dX2_flow_18 (rfl) (by omega) (by omega)
set_option maxRecDepth 20000 in
theorem c_m_flowX (l : Launch) (v : Int32) (h : ¬ okR v 0 2) (I : mw_I) (L : mw_L) : mw_CT l yX2_flow (.code yX2_flow cX2_flow 2 (some .int)) 4 0 0 [.ref 40, .int v] (mw_Y0, I, L) (.inl (some (.int 0), mw_Y0, mw_up I 40 19 1, L)) := by
  refine mw_enter RX2 rfl (by decide +kernel) (mw_cat rfl) (Nat.le_of_ble_eq_true rfl) (fun X hX hl hE hT hnm => ?_)
  subst hl
  show mw_G X 0 [some (.ref 40), some (.int v)] [] mw_Y0 I L 0 0
  refine mw_aload_n hX dX2_flow_0 rfl rfl ?_
  refine mw_iload_n hX dX2_flow_1 rfl rfl ?_
  refine mw_cV hX [_] ws_X2_101 dX2_flow_2 (c_m_asksX (mw_l X) v h I L) (mw_Yl (by decide)) mw_YM (by decide) rfl (by omega) (by omega) (by omega) (Nat.le_of_ble_eq_true rfl) ?_
  refine mw_if_eq hX (tgt := 17) dX2_flow_5 (by decide) (fun h5 => ?_) (fun h5 => ?_)
  · refine mw_ic hX 0 dX2_flow_17 rfl ?_
    exact mw_ireturn hX hE dX2_flow_18 (rfl) (by omega) (by omega)
  · exact absurd h5 (fun q => q rfl)
set_option maxRecDepth 20000 in
theorem c_m_energy (l : Launch) (i : Nat) (hi : i < 3) (I : mw_I) (L : mw_L) : mw_CT l yX2_energy (.code yX2_energy cX2_energy 2 (some .int)) 4 0 0 [.ref 40, .int (nI i)] (mw_Y0, I, L) (.inl (some (.int ((mw_up I 40 19 0) 57 i)), mw_Y0, mw_up I 40 19 0, L)) := by
  refine mw_enter RX2 rfl (by decide +kernel) (mw_cat rfl) (Nat.le_of_ble_eq_true rfl) (fun X hX hl hE hT hnm => ?_)
  subst hl
  show mw_G X 0 [some (.ref 40), some (.int (nI i))] [] mw_Y0 I L 0 0
  refine mw_aload_n hX dX2_energy_0 rfl rfl ?_
  refine mw_iload_n hX dX2_energy_1 rfl rfl ?_
  refine mw_cV hX [_] ws_X2_101 dX2_energy_2 (c_m_asks (mw_l X) (nI i) (okR_nI (n := 2) (by decide) hi) I L) (mw_Yl (by decide)) mw_YM (by decide) rfl (by omega) (by omega) (by omega) (Nat.le_of_ble_eq_true rfl) ?_
  refine mw_if_eq hX (tgt := 17) dX2_energy_5 (by decide) (fun h5 => ?_) (fun h5 => ?_)
  · exact absurd h5 (by decide)
  · refine mw_aload_n hX dX2_energy_8 rfl rfl ?_
    refine mw_getR hX (r := 57) dX2_energy_9 (mw_Yl (by decide)) mw_YM fl_X2_58 (by decide) (by decide) rfl rfl ?_
    refine mw_iload_n hX dX2_energy_12 rfl rfl ?_
    refine mw_iaload hX (j := i) dX2_energy_13 (mw_Yl (by decide)) rfl rfl (by omega) (by decide) ?_
    refine mw_goto hX (tgt := 18) dX2_energy_14 (by decide) ?_
    exact mw_ireturn hX hE dX2_energy_18 (rfl) (by omega) (by omega)
set_option maxRecDepth 20000 in
theorem c_m_energyX (l : Launch) (v : Int32) (h : ¬ okR v 0 2) (I : mw_I) (L : mw_L) : mw_CT l yX2_energy (.code yX2_energy cX2_energy 2 (some .int)) 4 0 0 [.ref 40, .int v] (mw_Y0, I, L) (.inl (some (.int 0), mw_Y0, mw_up I 40 19 1, L)) := by
  refine mw_enter RX2 rfl (by decide +kernel) (mw_cat rfl) (Nat.le_of_ble_eq_true rfl) (fun X hX hl hE hT hnm => ?_)
  subst hl
  show mw_G X 0 [some (.ref 40), some (.int v)] [] mw_Y0 I L 0 0
  refine mw_aload_n hX dX2_energy_0 rfl rfl ?_
  refine mw_iload_n hX dX2_energy_1 rfl rfl ?_
  refine mw_cV hX [_] ws_X2_101 dX2_energy_2 (c_m_asksX (mw_l X) v h I L) (mw_Yl (by decide)) mw_YM (by decide) rfl (by omega) (by omega) (by omega) (Nat.le_of_ble_eq_true rfl) ?_
  refine mw_if_eq hX (tgt := 17) dX2_energy_5 (by decide) (fun h5 => ?_) (fun h5 => ?_)
  · refine mw_ic hX 0 dX2_energy_17 rfl ?_
    exact mw_ireturn hX hE dX2_energy_18 (rfl) (by omega) (by omega)
  · exact absurd h5 (fun q => q rfl)
set_option maxRecDepth 20000 in
theorem c_m_mixX (l : Launch) (p f : Int32) (h : ¬ (okR p 0 2 ∧ okR f 0 16)) (I : mw_I) (L : mw_L) : mw_CT l yX2_mix (.code yX2_mix cX2_mix 3 (some .int)) 4 0 0 [.ref 40, .int p, .int f] (mw_Y0, I, L) (.inl (some (.int 0), mw_Y0, mw_up I 40 19 1, L)) := by
  refine mw_enter RX2 rfl (by decide +kernel) (mw_cat rfl) (Nat.le_of_ble_eq_true rfl) (fun X hX hl hE hT hnm => ?_)
  subst hl
  show mw_G X 0 [some (.ref 40), some (.int p), some (.int f)] [] mw_Y0 I L 0 0
  refine mw_aload_n hX dX2_mix_0 rfl rfl ?_
  refine mw_iload_n hX dX2_mix_1 rfl rfl ?_
  rcases Classical.em (okR p 0 2) with h2 | h2
  · refine mw_cS hX [_] ws_X2_72 dX2_mix_2 (c_isPlant (mw_l X) p h2 mw_Y0 I L) rfl (by omega) (by omega) (by omega) (Nat.le_of_ble_eq_true rfl) ?_
    refine mw_if_eq hX (tgt := 22) dX2_mix_5 (by decide) (fun h5 => ?_) (fun h5 => ?_)
    · exact absurd h5 (by decide)
    · refine mw_iload_n hX dX2_mix_8 rfl rfl ?_
      refine mw_ic hX 0 dX2_mix_9 rfl ?_
      refine mw_bp hX 16 dX2_mix_10 rfl ?_
      rcases Classical.em (okR f 0 16) with h12 | h12
      · refine mw_cS hX [_, _, _] ws_X2_68 dX2_mix_12 (c_isIn (mw_l X) f 0 16 h12 mw_Y0 I L) rfl (by omega) (by omega) (by omega) (Nat.le_of_ble_eq_true rfl) ?_
        refine mw_if_eq hX (tgt := 22) dX2_mix_15 (by decide) (fun h15 => ?_) (fun h15 => ?_)
        · exact absurd h15 (by decide)
        · exact absurd ⟨h2, h12⟩ h
      · refine mw_cS hX [_, _, _] ws_X2_68 dX2_mix_12 (c_isInX (mw_l X) f 0 16 h12 mw_Y0 I L) rfl (by omega) (by omega) (by omega) (Nat.le_of_ble_eq_true rfl) ?_
        refine mw_if_eq hX (tgt := 22) dX2_mix_15 (by decide) (fun h15 => ?_) (fun h15 => ?_)
        · refine mw_ic hX 1 dX2_mix_22 rfl ?_
          refine mw_putI hX dX2_mix_23 (mw_Yl (by decide)) mw_YM fl_X2_64 (by decide) (by decide) rfl ?_
          refine mw_aload_n hX dX2_mix_26 rfl rfl ?_
          refine mw_getI hX dX2_mix_27 (mw_Yl (by decide)) mw_YM fl_X2_64 (by decide) (by decide) rfl ?_
          refine mw_if_le hX (tgt := 37) dX2_mix_30 (by decide) (fun h30 => ?_) (fun h30 => ?_)
          · exact absurd h30 (by rw [mw_up_at]; decide)
          · refine mw_ic hX 0 dX2_mix_33 rfl ?_
            refine mw_goto hX (tgt := 43) dX2_mix_34 (by decide) ?_
            exact mw_ireturn hX hE dX2_mix_43 (rfl) (by omega) (by omega)
        · exact absurd h15 (fun q => q rfl)
  · refine mw_cS hX [_] ws_X2_72 dX2_mix_2 (c_isPlantX (mw_l X) p h2 mw_Y0 I L) rfl (by omega) (by omega) (by omega) (Nat.le_of_ble_eq_true rfl) ?_
    refine mw_if_eq hX (tgt := 22) dX2_mix_5 (by decide) (fun h5 => ?_) (fun h5 => ?_)
    · refine mw_ic hX 1 dX2_mix_22 rfl ?_
      refine mw_putI hX dX2_mix_23 (mw_Yl (by decide)) mw_YM fl_X2_64 (by decide) (by decide) rfl ?_
      refine mw_aload_n hX dX2_mix_26 rfl rfl ?_
      refine mw_getI hX dX2_mix_27 (mw_Yl (by decide)) mw_YM fl_X2_64 (by decide) (by decide) rfl ?_
      refine mw_if_le hX (tgt := 37) dX2_mix_30 (by decide) (fun h30 => ?_) (fun h30 => ?_)
      · exact absurd h30 (by rw [mw_up_at]; decide)
      · refine mw_ic hX 0 dX2_mix_33 rfl ?_
        refine mw_goto hX (tgt := 43) dX2_mix_34 (by decide) ?_
        exact mw_ireturn hX hE dX2_mix_43 (rfl) (by omega) (by omega)
    · exact absurd h5 (fun q => q rfl)
set_option maxRecDepth 20000 in
theorem c_m_mix (l : Launch) (i : Nat) (hi : i < 3) (f : Int32) (hf : okR f 0 16) (I : mw_I) (L : mw_L) : mw_CT l yX2_mix (.code yX2_mix cX2_mix 3 (some .int)) 4 0 0 [.ref 40, .int (nI i), .int f] (mw_Y0, I, L) (.inl (some (.int (mixedV (mw_up I 40 19 0) i f)), mw_Y0, mw_up I 40 19 0, L)) := by
  refine mw_enter RX2 rfl (by decide +kernel) (mw_cat rfl) (Nat.le_of_ble_eq_true rfl) (fun X hX hl hE hT hnm => ?_)
  subst hl
  show mw_G X 0 [some (.ref 40), some (.int (nI i)), some (.int f)] [] mw_Y0 I L 0 0
  refine mw_aload_n hX dX2_mix_0 rfl rfl ?_
  refine mw_iload_n hX dX2_mix_1 rfl rfl ?_
  refine mw_cS hX [_] ws_X2_72 dX2_mix_2 (c_isPlant (mw_l X) (nI i) (okR_nI (n := 2) (by decide) hi) mw_Y0 I L) rfl (by omega) (by omega) (by omega) (Nat.le_of_ble_eq_true rfl) ?_
  refine mw_if_eq hX (tgt := 22) dX2_mix_5 (by decide) (fun h5 => ?_) (fun h5 => ?_)
  · exact absurd h5 (by decide)
  · refine mw_iload_n hX dX2_mix_8 rfl rfl ?_
    refine mw_ic hX 0 dX2_mix_9 rfl ?_
    refine mw_bp hX 16 dX2_mix_10 rfl ?_
    refine mw_cS hX [_, _, _] ws_X2_68 dX2_mix_12 (c_isIn (mw_l X) f 0 16 hf mw_Y0 I L) rfl (by omega) (by omega) (by omega) (Nat.le_of_ble_eq_true rfl) ?_
    refine mw_if_eq hX (tgt := 22) dX2_mix_15 (by decide) (fun h15 => ?_) (fun h15 => ?_)
    · exact absurd h15 (by decide)
    · refine mw_ic hX 0 dX2_mix_18 rfl ?_
      refine mw_goto hX (tgt := 23) dX2_mix_19 (by decide) ?_
      refine mw_putI hX dX2_mix_23 (mw_Yl (by decide)) mw_YM fl_X2_64 (by decide) (by decide) rfl ?_
      refine mw_aload_n hX dX2_mix_26 rfl rfl ?_
      refine mw_getI hX dX2_mix_27 (mw_Yl (by decide)) mw_YM fl_X2_64 (by decide) (by decide) rfl ?_
      refine mw_if_le hX (tgt := 37) dX2_mix_30 (by decide) (fun h30 => ?_) (fun h30 => ?_)
      · refine mw_aload_n hX dX2_mix_37 rfl rfl ?_
        refine mw_iload_n hX dX2_mix_38 rfl rfl ?_
        refine mw_iload_n hX dX2_mix_39 rfl rfl ?_
        refine mw_cV hX [_, _] ws_X2_93 dX2_mix_40 (c_m_mixed (mw_l X) i hi f _ L) (mw_Yl (by decide)) mw_YM (by decide) rfl (by omega) (by omega) (by omega) (Nat.le_of_ble_eq_true rfl) ?_
        exact mw_ireturn hX hE dX2_mix_43 (rfl) (by omega) (by omega)
      · exact absurd (by rw [mw_t0]; decide) h30
def travV (I : mw_I) (p o n : Nat) : Int32 := lpN (fun k z => z + I 50 (210 * (2 * p + o) + k)) n 0
set_option maxRecDepth 20000 in
theorem c_m_travellingX (l : Launch) (p o : Int32) (h : ¬ (okR p 1 2 ∧ okR o 0 1)) (I : mw_I) (L : mw_L) : mw_CT l yX2_travelling (.code yX2_travelling cX2_travelling 5 (some .int)) 4 0 0 [.ref 40, .int p, .int o] (mw_Y0, I, L) (.inl (some (.int 0), mw_Y0, mw_up I 40 19 1, L)) := by
  refine mw_enter RX2 rfl (by decide +kernel) (mw_cat rfl) (Nat.le_of_ble_eq_true rfl) (fun X hX hl hE hT hnm => ?_)
  subst hl
  show mw_G X 0 [some (.ref 40), some (.int p), some (.int o), none, none] [] mw_Y0 I L 0 0
  refine mw_aload_n hX dX2_travelling_0 rfl rfl ?_
  refine mw_iload_n hX dX2_travelling_1 rfl rfl ?_
  refine mw_ic hX 1 dX2_travelling_2 rfl ?_
  refine mw_ic hX 2 dX2_travelling_3 rfl ?_
  rcases Classical.em (okR p 1 2) with h4 | h4
  · refine mw_cS hX [_, _, _] ws_X2_68 dX2_travelling_4 (c_isIn (mw_l X) p 1 2 h4 mw_Y0 I L) rfl (by omega) (by omega) (by omega) (Nat.le_of_ble_eq_true rfl) ?_
    refine mw_if_eq hX (tgt := 21) dX2_travelling_7 (by decide) (fun h7 => ?_) (fun h7 => ?_)
    · exact absurd h7 (by decide)
    · refine mw_iload_n hX dX2_travelling_10 rfl rfl ?_
      rcases Classical.em (okR o 0 1) with h11 | h11
      · refine mw_cS hX [_] ws_X2_76 dX2_travelling_11 (c_isOwner (mw_l X) o h11 mw_Y0 I L) rfl (by omega) (by omega) (by omega) (Nat.le_of_ble_eq_true rfl) ?_
        refine mw_if_eq hX (tgt := 21) dX2_travelling_14 (by decide) (fun h14 => ?_) (fun h14 => ?_)
        · exact absurd h14 (by decide)
        · exact absurd ⟨h4, h11⟩ h
      · refine mw_cS hX [_] ws_X2_76 dX2_travelling_11 (c_isOwnerX (mw_l X) o h11 mw_Y0 I L) rfl (by omega) (by omega) (by omega) (Nat.le_of_ble_eq_true rfl) ?_
        refine mw_if_eq hX (tgt := 21) dX2_travelling_14 (by decide) (fun h14 => ?_) (fun h14 => ?_)
        · refine mw_ic hX 1 dX2_travelling_21 rfl ?_
          refine mw_putI hX dX2_travelling_22 (mw_Yl (by decide)) mw_YM fl_X2_64 (by decide) (by decide) rfl ?_
          refine mw_ic hX 0 dX2_travelling_25 rfl ?_
          refine mw_istore_n hX dX2_travelling_26 rfl (Nat.le_of_ble_eq_true rfl) ?_
          dsimp only [List.set]
          refine mw_ic hX 0 dX2_travelling_27 rfl ?_
          refine mw_istore hX dX2_travelling_28 (Nat.le_of_ble_eq_true rfl) ?_
          dsimp only [List.set]
          refine mw_iload hX dX2_travelling_30 rfl ?_
          refine mw_sp hX 210 dX2_travelling_32 rfl ?_
          refine mw_icmp_ge hX (tgt := 71) dX2_travelling_35 (by decide) (fun h35 => ?_) (fun h35 => ?_)
          · exact absurd h35 (by decide)
          · refine mw_aload_n hX dX2_travelling_38 rfl rfl ?_
            refine mw_getI hX dX2_travelling_39 (mw_Yl (by decide)) mw_YM fl_X2_64 (by decide) (by decide) rfl ?_
            refine mw_if_ne hX (tgt := 71) dX2_travelling_42 (by decide) (fun h42 => ?_) (fun h42 => ?_)
            · refine mw_iload_n hX dX2_travelling_71 rfl rfl ?_
              exact mw_ireturn hX hE dX2_travelling_72 (rfl) (by omega) (by omega)
            · exact absurd h42 (by rw [mw_up_at]; decide)
        · exact absurd h14 (fun q => q rfl)
  · refine mw_cS hX [_, _, _] ws_X2_68 dX2_travelling_4 (c_isInX (mw_l X) p 1 2 h4 mw_Y0 I L) rfl (by omega) (by omega) (by omega) (Nat.le_of_ble_eq_true rfl) ?_
    refine mw_if_eq hX (tgt := 21) dX2_travelling_7 (by decide) (fun h7 => ?_) (fun h7 => ?_)
    · refine mw_ic hX 1 dX2_travelling_21 rfl ?_
      refine mw_putI hX dX2_travelling_22 (mw_Yl (by decide)) mw_YM fl_X2_64 (by decide) (by decide) rfl ?_
      refine mw_ic hX 0 dX2_travelling_25 rfl ?_
      refine mw_istore_n hX dX2_travelling_26 rfl (Nat.le_of_ble_eq_true rfl) ?_
      dsimp only [List.set]
      refine mw_ic hX 0 dX2_travelling_27 rfl ?_
      refine mw_istore hX dX2_travelling_28 (Nat.le_of_ble_eq_true rfl) ?_
      dsimp only [List.set]
      refine mw_iload hX dX2_travelling_30 rfl ?_
      refine mw_sp hX 210 dX2_travelling_32 rfl ?_
      refine mw_icmp_ge hX (tgt := 71) dX2_travelling_35 (by decide) (fun h35 => ?_) (fun h35 => ?_)
      · exact absurd h35 (by decide)
      · refine mw_aload_n hX dX2_travelling_38 rfl rfl ?_
        refine mw_getI hX dX2_travelling_39 (mw_Yl (by decide)) mw_YM fl_X2_64 (by decide) (by decide) rfl ?_
        refine mw_if_ne hX (tgt := 71) dX2_travelling_42 (by decide) (fun h42 => ?_) (fun h42 => ?_)
        · refine mw_iload_n hX dX2_travelling_71 rfl rfl ?_
          exact mw_ireturn hX hE dX2_travelling_72 (rfl) (by omega) (by omega)
        · exact absurd h42 (by rw [mw_up_at]; decide)
    · exact absurd h7 (fun q => q rfl)
set_option maxRecDepth 20000 in
theorem c_m_travelling (l : Launch) (i : Nat) (h0 : 1 ≤ i) (hi : i < 3) (o : Nat) (ho : o < 2) (I : mw_I) (L : mw_L) : mw_CT l yX2_travelling (.code yX2_travelling cX2_travelling 5 (some .int)) 4 0 0 [.ref 40, .int (nI i), .int (nI o)] (mw_Y0, I, L) (.inl (some (.int (travV (mw_up I 40 19 0) i o 210)), mw_Y0, mw_up I 40 19 0, L)) := by
  refine mw_enter RX2 rfl (by decide +kernel) (mw_cat rfl) (Nat.le_of_ble_eq_true rfl) (fun X hX hl hE hT hnm => ?_)
  subst hl
  show mw_G X 0 [some (.ref 40), some (.int (nI i)), some (.int (nI o)), none, none] [] mw_Y0 I L 0 0
  refine mw_aload_n hX dX2_travelling_0 rfl rfl ?_
  refine mw_iload_n hX dX2_travelling_1 rfl rfl ?_
  refine mw_ic hX 1 dX2_travelling_2 rfl ?_
  refine mw_ic hX 2 dX2_travelling_3 rfl ?_
  refine mw_cS hX [_, _, _] ws_X2_68 dX2_travelling_4 (c_isIn (mw_l X) (nI i) 1 2 (okR_low h0 hi) mw_Y0 I L) rfl (by omega) (by omega) (by omega) (Nat.le_of_ble_eq_true rfl) ?_
  refine mw_if_eq hX (tgt := 21) dX2_travelling_7 (by decide) (fun h7 => ?_) (fun h7 => ?_)
  · exact absurd h7 (by decide)
  · refine mw_iload_n hX dX2_travelling_10 rfl rfl ?_
    refine mw_cS hX [_] ws_X2_76 dX2_travelling_11 (c_isOwner (mw_l X) (nI o) (okR_nI (n := 1) (by decide) ho) mw_Y0 I L) rfl (by omega) (by omega) (by omega) (Nat.le_of_ble_eq_true rfl) ?_
    refine mw_if_eq hX (tgt := 21) dX2_travelling_14 (by decide) (fun h14 => ?_) (fun h14 => ?_)
    · exact absurd h14 (by decide)
    · refine mw_ic hX 0 dX2_travelling_17 rfl ?_
      refine mw_goto hX (tgt := 22) dX2_travelling_18 (by decide) ?_
      refine mw_putI hX dX2_travelling_22 (mw_Yl (by decide)) mw_YM fl_X2_64 (by decide) (by decide) rfl ?_
      refine mw_ic hX 0 dX2_travelling_25 rfl ?_
      refine mw_istore_n hX dX2_travelling_26 rfl (Nat.le_of_ble_eq_true rfl) ?_
      dsimp only [List.set]
      refine mw_ic hX 0 dX2_travelling_27 rfl ?_
      refine mw_istore hX dX2_travelling_28 (Nat.le_of_ble_eq_true rfl) ?_
      dsimp only [List.set]
      refine lp_dn (P := fun k => mw_G X 30 [some (.ref 40), some (.int (nI i)), some (.int (nI o)), some (.int (travV (mw_up I 40 19 0) i o k)), some (.int (nI (k)))] [] mw_Y0 (mw_up I 40 19 0) (L) 0 0) 0 210 ?_ ?_ 0 (Nat.le_refl _) (by omega)
      · show mw_G X 30 [some (.ref 40), some (.int (nI i)), some (.int (nI o)), some (.int (travV (mw_up I 40 19 0) i o 210)), some (.int (nI (210)))] [] mw_Y0 (mw_up I 40 19 0) (L) 0 0
        refine mw_iload hX dX2_travelling_30 rfl ?_
        refine mw_sp hX 210 dX2_travelling_32 rfl ?_
        refine mw_icmp_ge hX (tgt := 71) dX2_travelling_35 (by decide) (fun h35 => ?_) (fun h35 => ?_)
        · refine mw_iload_n hX dX2_travelling_71 rfl rfl ?_
          exact mw_ireturn hX hE dX2_travelling_72 (rfl) (by omega) (by omega)
        · exact absurd (nI_le (a := 210) (b := 210) (by omega) (by omega)) h35
      · intro k hsk hk ihk
        show mw_G X 30 [some (.ref 40), some (.int (nI i)), some (.int (nI o)), some (.int (travV (mw_up I 40 19 0) i o k)), some (.int (nI (k)))] [] mw_Y0 (mw_up I 40 19 0) (L) 0 0
        refine mw_iload hX dX2_travelling_30 rfl ?_
        refine mw_sp hX 210 dX2_travelling_32 rfl ?_
        refine mw_icmp_ge hX (tgt := 71) dX2_travelling_35 (by decide) (fun h35 => ?_) (fun h35 => ?_)
        · exact absurd h35 (nI_ge (a := k) (b := 210) (by omega) (by omega))
        · refine mw_aload_n hX dX2_travelling_38 rfl rfl ?_
          refine mw_getI hX dX2_travelling_39 (mw_Yl (by decide)) mw_YM fl_X2_64 (by decide) (by decide) rfl ?_
          refine mw_if_ne hX (tgt := 71) dX2_travelling_42 (by decide) (fun h42 => ?_) (fun h42 => ?_)
          · exact absurd mw_t0 h42
          · refine mw_iload_n hX dX2_travelling_45 rfl rfl ?_
            refine mw_aload_n hX dX2_travelling_46 rfl rfl ?_
            refine mw_getR hX (r := 50) dX2_travelling_47 (mw_Yl (by decide)) mw_YM fl_X2_37 (by decide) (by decide) rfl rfl ?_
            refine mw_sp hX 210 dX2_travelling_50 rfl ?_
            refine mw_ic hX 2 dX2_travelling_53 rfl ?_
            refine mw_iload_n hX dX2_travelling_54 rfl rfl ?_
            refine mw_imul hX dX2_travelling_55 ?_
            refine mw_iload_n hX dX2_travelling_56 rfl rfl ?_
            refine mw_iadd hX dX2_travelling_57 ?_
            refine mw_imul hX dX2_travelling_58 ?_
            refine mw_iload hX dX2_travelling_59 rfl ?_
            refine mw_iadd hX dX2_travelling_61 ?_
            refine mw_iaload hX (j := 210 * (2 * i + o) + k) dX2_travelling_62 (mw_Yl (by decide)) rfl (by rw [mw_n210, mw_n2, pk_mul, nI_add, pk_mul, nI_add]) (by omega) (by decide) ?_
            refine mw_iadd hX dX2_travelling_63 ?_
            refine mw_istore_n hX dX2_travelling_64 rfl (Nat.le_of_ble_eq_true rfl) ?_
            dsimp only [List.set]
            refine mw_inc hX (nI (k + 1)) dX2_travelling_65 rfl (mw_inc1 _) ?_
            dsimp only [List.set]
            refine mw_goto hX (tgt := 30) dX2_travelling_68 (by decide) ?_
            exact ihk
set_option maxRecDepth 20000 in
theorem c_m_arrivingX (l : Launch) (p o t : Int32) (h : ¬ (okR p 1 2 ∧ okR o 0 1 ∧ okR t 0 300)) (I : mw_I) (L : mw_L) : mw_CT l yX2_arriving (.code yX2_arriving cX2_arriving 4 (some .int)) 4 0 0 [.ref 40, .int p, .int o, .int t] (mw_Y0, I, L) (.inl (some (.int 0), mw_Y0, mw_up I 40 19 1, L)) := by
  refine mw_enter RX2 rfl (by decide +kernel) (mw_cat rfl) (Nat.le_of_ble_eq_true rfl) (fun X hX hl hE hT hnm => ?_)
  subst hl
  show mw_G X 0 [some (.ref 40), some (.int p), some (.int o), some (.int t)] [] mw_Y0 I L 0 0
  refine mw_aload_n hX dX2_arriving_0 rfl rfl ?_
  refine mw_iload_n hX dX2_arriving_1 rfl rfl ?_
  refine mw_ic hX 1 dX2_arriving_2 rfl ?_
  refine mw_ic hX 2 dX2_arriving_3 rfl ?_
  rcases Classical.em (okR p 1 2) with h4 | h4
  · refine mw_cS hX [_, _, _] ws_X2_68 dX2_arriving_4 (c_isIn (mw_l X) p 1 2 h4 mw_Y0 I L) rfl (by omega) (by omega) (by omega) (Nat.le_of_ble_eq_true rfl) ?_
    refine mw_if_eq hX (tgt := 32) dX2_arriving_7 (by decide) (fun h7 => ?_) (fun h7 => ?_)
    · exact absurd h7 (by decide)
    · refine mw_iload_n hX dX2_arriving_10 rfl rfl ?_
      rcases Classical.em (okR o 0 1) with h11 | h11
      · refine mw_cS hX [_] ws_X2_76 dX2_arriving_11 (c_isOwner (mw_l X) o h11 mw_Y0 I L) rfl (by omega) (by omega) (by omega) (Nat.le_of_ble_eq_true rfl) ?_
        refine mw_if_eq hX (tgt := 32) dX2_arriving_14 (by decide) (fun h14 => ?_) (fun h14 => ?_)
        · exact absurd h14 (by decide)
        · refine mw_iload_n hX dX2_arriving_17 rfl rfl ?_
          refine mw_ic hX 0 dX2_arriving_18 rfl ?_
          refine mw_sp hX 300 dX2_arriving_19 rfl ?_
          rcases Classical.em (okR t 0 300) with h22 | h22
          · refine mw_cS hX [_, _, _] ws_X2_68 dX2_arriving_22 (c_isIn (mw_l X) t 0 300 h22 mw_Y0 I L) rfl (by omega) (by omega) (by omega) (Nat.le_of_ble_eq_true rfl) ?_
            refine mw_if_eq hX (tgt := 32) dX2_arriving_25 (by decide) (fun h25 => ?_) (fun h25 => ?_)
            · exact absurd h25 (by decide)
            · exact absurd ⟨h4, h11, h22⟩ h
          · refine mw_cS hX [_, _, _] ws_X2_68 dX2_arriving_22 (c_isInX (mw_l X) t 0 300 h22 mw_Y0 I L) rfl (by omega) (by omega) (by omega) (Nat.le_of_ble_eq_true rfl) ?_
            refine mw_if_eq hX (tgt := 32) dX2_arriving_25 (by decide) (fun h25 => ?_) (fun h25 => ?_)
            · refine mw_ic hX 1 dX2_arriving_32 rfl ?_
              refine mw_putI hX dX2_arriving_33 (mw_Yl (by decide)) mw_YM fl_X2_64 (by decide) (by decide) rfl ?_
              refine mw_aload_n hX dX2_arriving_36 rfl rfl ?_
              refine mw_getI hX dX2_arriving_37 (mw_Yl (by decide)) mw_YM fl_X2_64 (by decide) (by decide) rfl ?_
              refine mw_if_gt hX (tgt := 50) dX2_arriving_40 (by decide) (fun h40 => ?_) (fun h40 => ?_)
              · refine mw_ic hX 0 dX2_arriving_50 rfl ?_
                refine mw_goto hX (tgt := 70) dX2_arriving_51 (by decide) ?_
                exact mw_ireturn hX hE dX2_arriving_70 (rfl) (by omega) (by omega)
              · exact absurd h40 (by rw [mw_up_at]; decide)
            · exact absurd h25 (fun q => q rfl)
      · refine mw_cS hX [_] ws_X2_76 dX2_arriving_11 (c_isOwnerX (mw_l X) o h11 mw_Y0 I L) rfl (by omega) (by omega) (by omega) (Nat.le_of_ble_eq_true rfl) ?_
        refine mw_if_eq hX (tgt := 32) dX2_arriving_14 (by decide) (fun h14 => ?_) (fun h14 => ?_)
        · refine mw_ic hX 1 dX2_arriving_32 rfl ?_
          refine mw_putI hX dX2_arriving_33 (mw_Yl (by decide)) mw_YM fl_X2_64 (by decide) (by decide) rfl ?_
          refine mw_aload_n hX dX2_arriving_36 rfl rfl ?_
          refine mw_getI hX dX2_arriving_37 (mw_Yl (by decide)) mw_YM fl_X2_64 (by decide) (by decide) rfl ?_
          refine mw_if_gt hX (tgt := 50) dX2_arriving_40 (by decide) (fun h40 => ?_) (fun h40 => ?_)
          · refine mw_ic hX 0 dX2_arriving_50 rfl ?_
            refine mw_goto hX (tgt := 70) dX2_arriving_51 (by decide) ?_
            exact mw_ireturn hX hE dX2_arriving_70 (rfl) (by omega) (by omega)
          · exact absurd h40 (by rw [mw_up_at]; decide)
        · exact absurd h14 (fun q => q rfl)
  · refine mw_cS hX [_, _, _] ws_X2_68 dX2_arriving_4 (c_isInX (mw_l X) p 1 2 h4 mw_Y0 I L) rfl (by omega) (by omega) (by omega) (Nat.le_of_ble_eq_true rfl) ?_
    refine mw_if_eq hX (tgt := 32) dX2_arriving_7 (by decide) (fun h7 => ?_) (fun h7 => ?_)
    · refine mw_ic hX 1 dX2_arriving_32 rfl ?_
      refine mw_putI hX dX2_arriving_33 (mw_Yl (by decide)) mw_YM fl_X2_64 (by decide) (by decide) rfl ?_
      refine mw_aload_n hX dX2_arriving_36 rfl rfl ?_
      refine mw_getI hX dX2_arriving_37 (mw_Yl (by decide)) mw_YM fl_X2_64 (by decide) (by decide) rfl ?_
      refine mw_if_gt hX (tgt := 50) dX2_arriving_40 (by decide) (fun h40 => ?_) (fun h40 => ?_)
      · refine mw_ic hX 0 dX2_arriving_50 rfl ?_
        refine mw_goto hX (tgt := 70) dX2_arriving_51 (by decide) ?_
        exact mw_ireturn hX hE dX2_arriving_70 (rfl) (by omega) (by omega)
      · exact absurd h40 (by rw [mw_up_at]; decide)
    · exact absurd h7 (fun q => q rfl)
set_option maxRecDepth 20000 in
theorem c_m_arriving (l : Launch) (i : Nat) (h0 : 1 ≤ i) (hi : i < 3) (o : Nat) (ho : o < 2) (t : Nat) (ht : t < 301) (I : mw_I) (L : mw_L) : mw_CT l yX2_arriving (.code yX2_arriving cX2_arriving 4 (some .int)) 4 0 0 [.ref 40, .int (nI i), .int (nI o), .int (nI t)] (mw_Y0, I, L) (.inl (some (.int (if t ≤ 209 then (mw_up I 40 19 0) 50 (210 * (2 * i + o) + t) else 0)), mw_Y0, mw_up I 40 19 0, L)) := by
  refine mw_enter RX2 rfl (by decide +kernel) (mw_cat rfl) (Nat.le_of_ble_eq_true rfl) (fun X hX hl hE hT hnm => ?_)
  subst hl
  show mw_G X 0 [some (.ref 40), some (.int (nI i)), some (.int (nI o)), some (.int (nI t))] [] mw_Y0 I L 0 0
  refine mw_aload_n hX dX2_arriving_0 rfl rfl ?_
  refine mw_iload_n hX dX2_arriving_1 rfl rfl ?_
  refine mw_ic hX 1 dX2_arriving_2 rfl ?_
  refine mw_ic hX 2 dX2_arriving_3 rfl ?_
  refine mw_cS hX [_, _, _] ws_X2_68 dX2_arriving_4 (c_isIn (mw_l X) (nI i) 1 2 (okR_low h0 hi) mw_Y0 I L) rfl (by omega) (by omega) (by omega) (Nat.le_of_ble_eq_true rfl) ?_
  refine mw_if_eq hX (tgt := 32) dX2_arriving_7 (by decide) (fun h7 => ?_) (fun h7 => ?_)
  · exact absurd h7 (by decide)
  · refine mw_iload_n hX dX2_arriving_10 rfl rfl ?_
    refine mw_cS hX [_] ws_X2_76 dX2_arriving_11 (c_isOwner (mw_l X) (nI o) (okR_nI (n := 1) (by decide) ho) mw_Y0 I L) rfl (by omega) (by omega) (by omega) (Nat.le_of_ble_eq_true rfl) ?_
    refine mw_if_eq hX (tgt := 32) dX2_arriving_14 (by decide) (fun h14 => ?_) (fun h14 => ?_)
    · exact absurd h14 (by decide)
    · refine mw_iload_n hX dX2_arriving_17 rfl rfl ?_
      refine mw_ic hX 0 dX2_arriving_18 rfl ?_
      refine mw_sp hX 300 dX2_arriving_19 rfl ?_
      refine mw_cS hX [_, _, _] ws_X2_68 dX2_arriving_22 (c_isIn (mw_l X) (nI t) 0 300 (okR_nI (n := 300) (by decide) ht) mw_Y0 I L) rfl (by omega) (by omega) (by omega) (Nat.le_of_ble_eq_true rfl) ?_
      refine mw_if_eq hX (tgt := 32) dX2_arriving_25 (by decide) (fun h25 => ?_) (fun h25 => ?_)
      · exact absurd h25 (by decide)
      · refine mw_ic hX 0 dX2_arriving_28 rfl ?_
        refine mw_goto hX (tgt := 33) dX2_arriving_29 (by decide) ?_
        refine mw_putI hX dX2_arriving_33 (mw_Yl (by decide)) mw_YM fl_X2_64 (by decide) (by decide) rfl ?_
        refine mw_aload_n hX dX2_arriving_36 rfl rfl ?_
        refine mw_getI hX dX2_arriving_37 (mw_Yl (by decide)) mw_YM fl_X2_64 (by decide) (by decide) rfl ?_
        refine mw_if_gt hX (tgt := 50) dX2_arriving_40 (by decide) (fun h40 => ?_) (fun h40 => ?_)
        · exact absurd h40 (by rw [mw_t0]; decide)
        · refine mw_iload_n hX dX2_arriving_43 rfl rfl ?_
          refine mw_sp hX 209 dX2_arriving_44 rfl ?_
          refine mw_icmp_le hX (tgt := 54) dX2_arriving_47 (by decide) (fun h47 => ?_) (fun h47 => ?_)
          · have q47 : t ≤ 209 := (nI_leI (b := 209) (by omega) (by decide)).mp h47
            refine mw_aload_n hX dX2_arriving_54 rfl rfl ?_
            refine mw_getR hX (r := 50) dX2_arriving_55 (mw_Yl (by decide)) mw_YM fl_X2_37 (by decide) (by decide) rfl rfl ?_
            refine mw_sp hX 210 dX2_arriving_58 rfl ?_
            refine mw_ic hX 2 dX2_arriving_61 rfl ?_
            refine mw_iload_n hX dX2_arriving_62 rfl rfl ?_
            refine mw_imul hX dX2_arriving_63 ?_
            refine mw_iload_n hX dX2_arriving_64 rfl rfl ?_
            refine mw_iadd hX dX2_arriving_65 ?_
            refine mw_imul hX dX2_arriving_66 ?_
            refine mw_iload_n hX dX2_arriving_67 rfl rfl ?_
            refine mw_iadd hX dX2_arriving_68 ?_
            refine mw_iaload hX (j := 210 * (2 * i + o) + t) dX2_arriving_69 (mw_Yl (by decide)) rfl (by rw [mw_n210, mw_n2, pk_mul, nI_add, pk_mul, nI_add]) (by omega) (by decide) ?_
            exact mw_ireturn hX hE dX2_arriving_70 (by rw [if_pos q47]) (by omega) (by omega)
          · have q47 : ¬ t ≤ 209 := fun q => h47 (nI_le q (by decide))
            refine mw_ic hX 0 dX2_arriving_50 rfl ?_
            refine mw_goto hX (tgt := 70) dX2_arriving_51 (by decide) ?_
            exact mw_ireturn hX hE dX2_arriving_70 (by rw [if_neg q47]) (by omega) (by omega)
def wk1 (p h o : Nat) (J : mw_I) : mw_I := mw_up (mw_up J 49 (2 * p + o) (J 49 (2 * p + o) + J 50 (210 * (2 * p + o) + h))) 50 (210 * (2 * p + o) + h) 0
def wkA (I : mw_I) (p h : Nat) : mw_I := lpN (wk1 p h) 2 I
def wkB (J : mw_I) (p : Nat) : mw_I :=
  let f := J 44 p * J 45 p / 100
  let J1 := mw_up J 49 (2 * p) (J 49 (2 * p) + f)
  let J2 := mw_up J1 49 (2 * p + 1) (J1 49 (2 * p + 1) + (J1 44 p - f))
  let J3 := mw_up J2 51 0 (J2 51 0 + f)
  mw_up J3 51 1 (J3 51 1 + (J3 44 p - f))
def headV (J : mw_I) (p : Nat) : Int32 := J 42 p + filledV J p / 5
def lacksV (J : mw_I) (p : Nat) : Int32 := J 46 p - J 47 (2 * p) - J 47 (2 * p + 1)
def mineV (J : mw_I) (p : Nat) : Int32 := J 47 (2 * p) + (if lacksV J p ≤ 0 then 0 else if ¬ nI (richerN J p) = 0 then 0 else lacksV J p)
def otherV (J : mw_I) (p : Nat) : Int32 := J 47 (2 * p + 1) + (if lacksV J p ≤ 0 then 0 else if ¬ nI (richerN J p) = 1 then 0 else lacksV J p)
def cut2V (v w c more : Int32) (first : Bool) : Int32 × Int32 := if first then (v - (if more ≤ c then more else c), w - (more - (if more ≤ c then more else c))) else (v - (more - (if more ≤ c then more else c)), w - (if more ≤ c then more else c))
def cutV (J : mw_I) (p : Nat) (v w : Int32) : Int32 × Int32 := if v + w - filledV J p ≤ 0 then (v, w) else if J 49 (2 * p + 1) - w ≤ J 49 (2 * p) - v then cut2V v w w (v + w - filledV J p) false else cut2V v w v (v + w - filledV J p) true
def wkP (J : mw_I) (p h t : Nat) (v w hd : Int32) : mw_I :=
  let J1 := mw_up J 49 (2 * p) (J 49 (2 * p) - v)
  let J2 := mw_up J1 49 (2 * p + 1) (J1 49 (2 * p + 1) - w)
  let J3 := sendsI J2 p 0 v h t
  let J4 := sendsI J3 p 1 w h t
  let J5 := mw_up J4 55 p (J4 55 p + (if J4 46 p ≤ v + w then 0 else 1))
  let J6 := mw_up J5 56 p (if 16 ≤ v + w then 16 else v + w)
  mw_up J6 57 p (J6 57 p + mixedV J6 p (J6 56 p) * hd / 10)
def wkS (J : mw_I) (p h t : Nat) : mw_I :=
  let q := filledV J p - J 41 p
  if q ≤ 0 then J else
  let J1 := mw_up J 49 (2 * p + richerN J p) (J 49 (2 * p + richerN J p) - q)
  let J2 := mw_up J1 54 p (J1 54 p + q)
  sendsI J2 p (richerN J p) q h t
def wkE (J : mw_I) (p h t : Nat) : mw_I := wkS (wkP J p h t (cutV J p (mineV J p) (otherV J p)).1 (cutV J p (mineV J p) (otherV J p)).2 (headV J p)) p h t
def worksI (I : mw_I) (p h t : Nat) : mw_I := wkE (wkB (wkA I p h) p) p h t
theorem fr_wkA {I : mw_I} {p h a : Nat} (h1 : a ≠ 49) (h2 : a ≠ 50) (n : Nat) : lpN (wk1 p h) n I a = I a := lpN_inv (P := fun (J : mw_I) => J a = I a) n (fun _ _ _ hz => ((mw_up_ne h2).trans (mw_up_ne h1)).trans hz) rfl
theorem fr_wkB {I : mw_I} {p a : Nat} (h1 : a ≠ 49) (h2 : a ≠ 51) : wkB I p a = I a := by
  unfold wkB
  rw [mw_up_ne h2, mw_up_ne h2, mw_up_ne h1, mw_up_ne h1]
theorem fr_wkP {I : mw_I} {p h t a : Nat} {v w z : Int32} (h1 : a ≠ 49) (h2 : a ≠ 50) (h3 : a ≠ 52) (h4 : a ≠ 55) (h5 : a ≠ 56) (h6 : a ≠ 57) : wkP I p h t v w z a = I a := by
  unfold wkP
  rw [mw_up_ne h6, mw_up_ne h5, mw_up_ne h4, fr_snd h2 h3, fr_snd h2 h3, mw_up_ne h1, mw_up_ne h1]
theorem fr_wkS {I : mw_I} {p h t a : Nat} (h1 : a ≠ 49) (h2 : a ≠ 50) (h3 : a ≠ 52) (h4 : a ≠ 54) : wkS I p h t a = I a := by
  unfold wkS
  dsimp only
  split
  · rfl
  · rw [fr_snd h2 h3, mw_up_ne h4, mw_up_ne h1]
theorem fr_works {I : mw_I} {p h t a : Nat} (h1 : a ≠ 49) (h2 : a ≠ 50) (h3 : a ≠ 52) (h4 : a ≠ 54) (h5 : a ≠ 55) (h6 : a ≠ 56) (h7 : a ≠ 57) (h8 : a ≠ 51) : worksI I p h t a = I a := by
  unfold worksI wkE wkA
  rw [fr_wkS h1 h2 h3 h4, fr_wkP h1 h2 h3 h5 h6 h7, fr_wkB h1 h8, fr_wkA h1 h2]
set_option maxRecDepth 20000 in
theorem c_m_works (l : Launch) (p : Nat) (hp : p < 3) (h : Nat) (hh : h < 200) (t : Nat) (ht : t < 6) (I : mw_I) (hH : I 40 10 = nI h) (hTr : I 43 p = nI t) (L : mw_L) : mw_CT l yX2_works (.code yX2_works cX2_works 12 none) 2 0 0 [.ref 40, .int (nI p)] (mw_Y0, I, L) (.inl (none, mw_Y0, worksI I p h t, L)) := by
  refine mw_enter RX2 rfl (by decide +kernel) (mw_cat rfl) (Nat.le_of_ble_eq_true rfl) (fun X hX hl hE hT hnm => ?_)
  subst hl
  show mw_G X 0 [some (.ref 40), some (.int (nI p)), none, none, none, none, none, none, none, none, none, none] [] mw_Y0 I L 0 0
  refine mw_ic hX 2 dX2_works_0 rfl ?_
  refine mw_iload_n hX dX2_works_1 rfl rfl ?_
  refine mw_imul hX dX2_works_2 ?_
  rw [mw_n2, pk_mul]
  refine mw_istore_n hX dX2_works_3 rfl (Nat.le_of_ble_eq_true rfl) ?_
  dsimp only [List.set]
  refine mw_iload_n hX dX2_works_4 rfl rfl ?_
  refine mw_ic hX 1 dX2_works_5 rfl ?_
  refine mw_iadd hX dX2_works_6 ?_
  rw [mw_n1, nI_add]
  refine mw_istore_n hX dX2_works_7 rfl (Nat.le_of_ble_eq_true rfl) ?_
  dsimp only [List.set]
  refine mw_ic hX 0 dX2_works_8 rfl ?_
  refine mw_istore hX dX2_works_9 (Nat.le_of_ble_eq_true rfl) ?_
  dsimp only [List.set]
  refine lp_dn (P := fun o => mw_G X 11 [some (.ref 40), some (.int (nI p)), some (.int (nI (2 * p))), some (.int (nI (2 * p + 1))), some (.int (nI (o))), none, none, none, none, none, none, none] [] mw_Y0 (lpN (wk1 p h) o I) (L) 0 0) 0 2 ?_ ?_ 0 (Nat.le_refl _) (by omega)
  · show mw_G X 11 [some (.ref 40), some (.int (nI p)), some (.int (nI (2 * p))), some (.int (nI (2 * p + 1))), some (.int (nI (2))), none, none, none, none, none, none, none] [] mw_Y0 (lpN (wk1 p h) 2 I) (L) 0 0
    refine mw_iload hX dX2_works_11 rfl ?_
    refine mw_ic hX 2 dX2_works_13 rfl ?_
    refine mw_icmp_ge hX (tgt := 72) dX2_works_14 (by decide) (fun h14 => ?_) (fun h14 => ?_)
    · refine mw_aload_n hX dX2_works_72 rfl rfl ?_
      refine mw_getR hX (r := 44) dX2_works_73 (mw_Yl (by decide)) mw_YM fl_X2_19 (by decide) (by decide) rfl rfl ?_
      refine mw_iload_n hX dX2_works_76 rfl rfl ?_
      refine mw_iaload hX (j := p) dX2_works_77 (mw_Yl (by decide)) rfl rfl (by omega) (by decide) ?_
      refine mw_aload_n hX dX2_works_78 rfl rfl ?_
      refine mw_getR hX (r := 45) dX2_works_79 (mw_Yl (by decide)) mw_YM fl_X2_22 (by decide) (by decide) rfl rfl ?_
      refine mw_iload_n hX dX2_works_82 rfl rfl ?_
      refine mw_iaload hX (j := p) dX2_works_83 (mw_Yl (by decide)) rfl rfl (by omega) (by decide) ?_
      refine mw_imul hX dX2_works_84 ?_
      refine mw_bp hX 100 dX2_works_85 rfl ?_
      refine mw_idiv hX (by decide) dX2_works_87 ?_
      refine mw_istore hX dX2_works_88 (Nat.le_of_ble_eq_true rfl) ?_
      dsimp only [List.set]
      refine mw_aload_n hX dX2_works_90 rfl rfl ?_
      refine mw_getR hX (r := 49) dX2_works_91 (mw_Yl (by decide)) mw_YM fl_X2_34 (by decide) (by decide) rfl rfl ?_
      refine mw_iload_n hX dX2_works_94 rfl rfl ?_
      refine mw_dup2 hX dX2_works_95 ?_
      refine mw_iaload hX (j := 2 * p) dX2_works_96 (mw_Yl (by decide)) rfl (by simp only [mw_n0, mw_n1, mw_n2, mw_n3, mw_n4, mw_n5, mw_n6, mw_n8, mw_n9, mw_n18, mw_n210, mw_n260, pk_mul, nI_add]) (by omega) (by decide) ?_
      refine mw_iload hX dX2_works_97 rfl ?_
      refine mw_iadd hX dX2_works_99 ?_
      refine mw_iastore hX (j := 2 * p) dX2_works_100 (mw_Yl (by decide)) rfl (by simp only [mw_n0, mw_n1, mw_n2, mw_n3, mw_n4, mw_n5, mw_n6, mw_n8, mw_n9, mw_n18, mw_n210, mw_n260, pk_mul, nI_add]) (by omega) (by decide) ?_
      refine mw_aload_n hX dX2_works_101 rfl rfl ?_
      refine mw_getR hX (r := 49) dX2_works_102 (mw_Yl (by decide)) mw_YM fl_X2_34 (by decide) (by decide) rfl rfl ?_
      refine mw_iload_n hX dX2_works_105 rfl rfl ?_
      refine mw_dup2 hX dX2_works_106 ?_
      refine mw_iaload hX (j := 2 * p + 1) dX2_works_107 (mw_Yl (by decide)) rfl (by simp only [mw_n0, mw_n1, mw_n2, mw_n3, mw_n4, mw_n5, mw_n6, mw_n8, mw_n9, mw_n18, mw_n210, mw_n260, pk_mul, nI_add]) (by omega) (by decide) ?_
      refine mw_aload_n hX dX2_works_108 rfl rfl ?_
      refine mw_getR hX (r := 44) dX2_works_109 (mw_Yl (by decide)) mw_YM fl_X2_19 (by decide) (by decide) rfl rfl ?_
      refine mw_iload_n hX dX2_works_112 rfl rfl ?_
      refine mw_iaload hX (j := p) dX2_works_113 (mw_Yl (by decide)) rfl rfl (by omega) (by decide) ?_
      refine mw_iload hX dX2_works_114 rfl ?_
      refine mw_isub hX dX2_works_116 ?_
      refine mw_iadd hX dX2_works_117 ?_
      refine mw_iastore hX (j := 2 * p + 1) dX2_works_118 (mw_Yl (by decide)) rfl (by simp only [mw_n0, mw_n1, mw_n2, mw_n3, mw_n4, mw_n5, mw_n6, mw_n8, mw_n9, mw_n18, mw_n210, mw_n260, pk_mul, nI_add]) (by omega) (by decide) ?_
      refine mw_aload_n hX dX2_works_119 rfl rfl ?_
      refine mw_getR hX (r := 51) dX2_works_120 (mw_Yl (by decide)) mw_YM fl_X2_40 (by decide) (by decide) rfl rfl ?_
      refine mw_ic hX 0 dX2_works_123 rfl ?_
      refine mw_dup2 hX dX2_works_124 ?_
      refine mw_iaload hX (j := 0) dX2_works_125 (mw_Yl (by decide)) rfl rfl (by decide) (by decide) ?_
      refine mw_iload hX dX2_works_126 rfl ?_
      refine mw_iadd hX dX2_works_128 ?_
      refine mw_iastore hX (j := 0) dX2_works_129 (mw_Yl (by decide)) rfl rfl (by decide) (by decide) ?_
      refine mw_aload_n hX dX2_works_130 rfl rfl ?_
      refine mw_getR hX (r := 51) dX2_works_131 (mw_Yl (by decide)) mw_YM fl_X2_40 (by decide) (by decide) rfl rfl ?_
      refine mw_ic hX 1 dX2_works_134 rfl ?_
      refine mw_dup2 hX dX2_works_135 ?_
      refine mw_iaload hX (j := 1) dX2_works_136 (mw_Yl (by decide)) rfl rfl (by decide) (by decide) ?_
      refine mw_aload_n hX dX2_works_137 rfl rfl ?_
      refine mw_getR hX (r := 44) dX2_works_138 (mw_Yl (by decide)) mw_YM fl_X2_19 (by decide) (by decide) rfl rfl ?_
      refine mw_iload_n hX dX2_works_141 rfl rfl ?_
      refine mw_iaload hX (j := p) dX2_works_142 (mw_Yl (by decide)) rfl rfl (by omega) (by decide) ?_
      refine mw_iload hX dX2_works_143 rfl ?_
      refine mw_isub hX dX2_works_145 ?_
      refine mw_iadd hX dX2_works_146 ?_
      refine mw_iastore hX (j := 1) dX2_works_147 (mw_Yl (by decide)) rfl rfl (by decide) (by decide) ?_
      refine mw_mem (J := wkB (wkA I p h) p) rfl ?_
      have hH2 : wkB (wkA I p h) p 40 10 = nI h := by rw [fr_wkB (by decide) (by decide), wkA, fr_wkA (by decide) (by decide), hH]
      have hT2 : wkB (wkA I p h) p 43 p = nI t := by rw [fr_wkB (by decide) (by decide), wkA, fr_wkA (by decide) (by decide), hTr]
      generalize hJ : wkB (wkA I p h) p = J at hH2 hT2 ⊢
      refine mw_drop 4 ?_
      dsimp only [List.set]
      refine mw_aload_n hX dX2_works_148 rfl rfl ?_
      refine mw_getR hX (r := 42) dX2_works_149 (mw_Yl (by decide)) mw_YM fl_X2_13 (by decide) (by decide) rfl rfl ?_
      refine mw_iload_n hX dX2_works_152 rfl rfl ?_
      refine mw_iaload hX (j := p) dX2_works_153 (mw_Yl (by decide)) rfl rfl (by omega) (by decide) ?_
      refine mw_aload_n hX dX2_works_154 rfl rfl ?_
      refine mw_iload_n hX dX2_works_155 rfl rfl ?_
      refine mw_cV hX [_] ws_X2_82 dX2_works_156 (c_m_filled (mw_l X) p hp _ L) (mw_Yl (by decide)) mw_YM (by decide) rfl (by omega) (by omega) (by omega) (Nat.le_of_ble_eq_true rfl) ?_
      refine mw_ic hX 5 dX2_works_159 rfl ?_
      refine mw_idiv hX (by decide) dX2_works_160 ?_
      refine mw_iadd hX dX2_works_161 ?_
      refine mw_istore hX dX2_works_162 (Nat.le_of_ble_eq_true rfl) ?_
      dsimp only [List.set]
      refine mw_aload_n hX dX2_works_164 rfl rfl ?_
      refine mw_getR hX (r := 47) dX2_works_165 (mw_Yl (by decide)) mw_YM fl_X2_28 (by decide) (by decide) rfl rfl ?_
      refine mw_iload_n hX dX2_works_168 rfl rfl ?_
      refine mw_iaload hX (j := 2 * p) dX2_works_169 (mw_Yl (by decide)) rfl (by simp only [mw_n0, mw_n1, mw_n2, mw_n3, mw_n4, mw_n5, mw_n6, mw_n8, mw_n9, mw_n18, mw_n210, mw_n260, pk_mul, nI_add]) (by omega) (by decide) ?_
      refine mw_istore hX dX2_works_170 (Nat.le_of_ble_eq_true rfl) ?_
      dsimp only [List.set]
      refine mw_aload_n hX dX2_works_172 rfl rfl ?_
      refine mw_getR hX (r := 47) dX2_works_173 (mw_Yl (by decide)) mw_YM fl_X2_28 (by decide) (by decide) rfl rfl ?_
      refine mw_iload_n hX dX2_works_176 rfl rfl ?_
      refine mw_iaload hX (j := 2 * p + 1) dX2_works_177 (mw_Yl (by decide)) rfl (by simp only [mw_n0, mw_n1, mw_n2, mw_n3, mw_n4, mw_n5, mw_n6, mw_n8, mw_n9, mw_n18, mw_n210, mw_n260, pk_mul, nI_add]) (by omega) (by decide) ?_
      refine mw_istore hX dX2_works_178 (Nat.le_of_ble_eq_true rfl) ?_
      dsimp only [List.set]
      refine mw_aload_n hX dX2_works_180 rfl rfl ?_
      refine mw_getR hX (r := 46) dX2_works_181 (mw_Yl (by decide)) mw_YM fl_X2_25 (by decide) (by decide) rfl rfl ?_
      refine mw_iload_n hX dX2_works_184 rfl rfl ?_
      refine mw_iaload hX (j := p) dX2_works_185 (mw_Yl (by decide)) rfl rfl (by omega) (by decide) ?_
      refine mw_iload hX dX2_works_186 rfl ?_
      refine mw_isub hX dX2_works_188 ?_
      refine mw_iload hX dX2_works_189 rfl ?_
      refine mw_isub hX dX2_works_191 ?_
      refine mw_istore hX dX2_works_192 (Nat.le_of_ble_eq_true rfl) ?_
      dsimp only [List.set]
      have key359 : ∀ v w : Int32, (v, w) = cutV J p (mineV J p) (otherV J p) → mw_G X 359 [some (.ref 40), some (.int (nI p)), some (.int (nI (2 * p))), some (.int (nI (2 * p + 1))), none, some (.int (headV J p)), some (.int v), some (.int w), none, none, none, none] [] mw_Y0 J L 0 0 := by
        intro v w hvw
        refine mw_aload_n hX dX2_works_359 rfl rfl ?_
        refine mw_getR hX (r := 49) dX2_works_360 (mw_Yl (by decide)) mw_YM fl_X2_34 (by decide) (by decide) rfl rfl ?_
        refine mw_iload_n hX dX2_works_363 rfl rfl ?_
        refine mw_dup2 hX dX2_works_364 ?_
        refine mw_iaload hX (j := 2 * p) dX2_works_365 (mw_Yl (by decide)) rfl (by simp only [mw_n0, mw_n1, mw_n2, mw_n3, mw_n4, mw_n5, mw_n6, mw_n8, mw_n9, mw_n18, mw_n210, mw_n260, pk_mul, nI_add]) (by omega) (by decide) ?_
        refine mw_iload hX dX2_works_366 rfl ?_
        refine mw_isub hX dX2_works_368 ?_
        refine mw_iastore hX (j := 2 * p) dX2_works_369 (mw_Yl (by decide)) rfl (by simp only [mw_n0, mw_n1, mw_n2, mw_n3, mw_n4, mw_n5, mw_n6, mw_n8, mw_n9, mw_n18, mw_n210, mw_n260, pk_mul, nI_add]) (by omega) (by decide) ?_
        refine mw_aload_n hX dX2_works_370 rfl rfl ?_
        refine mw_getR hX (r := 49) dX2_works_371 (mw_Yl (by decide)) mw_YM fl_X2_34 (by decide) (by decide) rfl rfl ?_
        refine mw_iload_n hX dX2_works_374 rfl rfl ?_
        refine mw_dup2 hX dX2_works_375 ?_
        refine mw_iaload hX (j := 2 * p + 1) dX2_works_376 (mw_Yl (by decide)) rfl (by simp only [mw_n0, mw_n1, mw_n2, mw_n3, mw_n4, mw_n5, mw_n6, mw_n8, mw_n9, mw_n18, mw_n210, mw_n260, pk_mul, nI_add]) (by omega) (by decide) ?_
        refine mw_iload hX dX2_works_377 rfl ?_
        refine mw_isub hX dX2_works_379 ?_
        refine mw_iastore hX (j := 2 * p + 1) dX2_works_380 (mw_Yl (by decide)) rfl (by simp only [mw_n0, mw_n1, mw_n2, mw_n3, mw_n4, mw_n5, mw_n6, mw_n8, mw_n9, mw_n18, mw_n210, mw_n260, pk_mul, nI_add]) (by omega) (by decide) ?_
        refine mw_aload_n hX dX2_works_381 rfl rfl ?_
        refine mw_iload_n hX dX2_works_382 rfl rfl ?_
        refine mw_ic hX 0 dX2_works_383 rfl ?_
        refine mw_iload hX dX2_works_384 rfl ?_
        refine mw_cV hX [_, _, _] ws_X2_89 dX2_works_386 (c_m_sends (mw_l X) p hp 0 (by decide) _ h hh t ht _ ((congrFun (((mw_up_ne (by decide))).trans ( ((mw_up_ne (by decide))).trans (rfl))) 10).trans hH2) ((congrFun (((mw_up_ne (by decide))).trans ( ((mw_up_ne (by decide))).trans (rfl))) p).trans hT2) L) (mw_Yl (by decide)) mw_YM (by decide) rfl (by omega) (by omega) (by omega) (Nat.le_of_ble_eq_true rfl) ?_
        refine mw_aload_n hX dX2_works_389 rfl rfl ?_
        refine mw_iload_n hX dX2_works_390 rfl rfl ?_
        refine mw_ic hX 1 dX2_works_391 rfl ?_
        refine mw_iload hX dX2_works_392 rfl ?_
        refine mw_cV hX [_, _, _] ws_X2_89 dX2_works_394 (c_m_sends (mw_l X) p hp 1 (by decide) _ h hh t ht _ ((congrFun (((fr_snd (by decide) (by decide))).trans ( ((mw_up_ne (by decide))).trans ( ((mw_up_ne (by decide))).trans (rfl)))) 10).trans hH2) ((congrFun (((fr_snd (by decide) (by decide))).trans ( ((mw_up_ne (by decide))).trans ( ((mw_up_ne (by decide))).trans (rfl)))) p).trans hT2) L) (mw_Yl (by decide)) mw_YM (by decide) rfl (by omega) (by omega) (by omega) (Nat.le_of_ble_eq_true rfl) ?_
        refine mw_aload_n hX dX2_works_397 rfl rfl ?_
        refine mw_getR hX (r := 55) dX2_works_398 (mw_Yl (by decide)) mw_YM fl_X2_52 (by decide) (by decide) rfl rfl ?_
        refine mw_iload_n hX dX2_works_401 rfl rfl ?_
        refine mw_dup2 hX dX2_works_402 ?_
        refine mw_iaload hX (j := p) dX2_works_403 (mw_Yl (by decide)) rfl rfl (by omega) (by decide) ?_
        refine mw_iload hX dX2_works_404 rfl ?_
        refine mw_iload hX dX2_works_406 rfl ?_
        refine mw_iadd hX dX2_works_408 ?_
        refine mw_aload_n hX dX2_works_409 rfl rfl ?_
        refine mw_getR hX (r := 46) dX2_works_410 (mw_Yl (by decide)) mw_YM fl_X2_25 (by decide) (by decide) rfl rfl ?_
        refine mw_iload_n hX dX2_works_413 rfl rfl ?_
        refine mw_iaload hX (j := p) dX2_works_414 (mw_Yl (by decide)) rfl rfl (by omega) (by decide) ?_
        refine mw_icmp_ge hX (tgt := 422) dX2_works_415 (by decide) (fun h415 => ?_) (fun h415 => ?_)
        · refine mw_ic hX 0 dX2_works_422 rfl ?_
          refine mw_iadd hX dX2_works_423 ?_
          refine mw_iastore hX (j := p) dX2_works_424 (mw_Yl (by decide)) rfl rfl (by omega) (by decide) ?_
          refine mw_aload_n hX dX2_works_425 rfl rfl ?_
          refine mw_getR hX (r := 56) dX2_works_426 (mw_Yl (by decide)) mw_YM fl_X2_55 (by decide) (by decide) rfl rfl ?_
          refine mw_iload_n hX dX2_works_429 rfl rfl ?_
          refine mw_iload hX dX2_works_430 rfl ?_
          refine mw_iload hX dX2_works_432 rfl ?_
          refine mw_iadd hX dX2_works_434 ?_
          refine mw_bp hX 16 dX2_works_435 rfl ?_
          refine mw_icmp_ge hX (tgt := 448) dX2_works_437 (by decide) (fun h437 => ?_) (fun h437 => ?_)
          · refine mw_bp hX 16 dX2_works_448 rfl ?_
            refine mw_iastore hX (j := p) dX2_works_450 (mw_Yl (by decide)) rfl rfl (by omega) (by decide) ?_
            refine mw_aload_n hX dX2_works_451 rfl rfl ?_
            refine mw_getR hX (r := 57) dX2_works_452 (mw_Yl (by decide)) mw_YM fl_X2_58 (by decide) (by decide) rfl rfl ?_
            refine mw_iload_n hX dX2_works_455 rfl rfl ?_
            refine mw_dup2 hX dX2_works_456 ?_
            refine mw_iaload hX (j := p) dX2_works_457 (mw_Yl (by decide)) rfl rfl (by omega) (by decide) ?_
            refine mw_aload_n hX dX2_works_458 rfl rfl ?_
            refine mw_iload_n hX dX2_works_459 rfl rfl ?_
            refine mw_aload_n hX dX2_works_460 rfl rfl ?_
            refine mw_getR hX (r := 56) dX2_works_461 (mw_Yl (by decide)) mw_YM fl_X2_55 (by decide) (by decide) rfl rfl ?_
            refine mw_iload_n hX dX2_works_464 rfl rfl ?_
            refine mw_iaload hX (j := p) dX2_works_465 (mw_Yl (by decide)) rfl rfl (by omega) (by decide) ?_
            refine mw_cV hX [_, _] ws_X2_93 dX2_works_466 (c_m_mixed (mw_l X) p hp _ _ L) (mw_Yl (by decide)) mw_YM (by decide) rfl (by omega) (by omega) (by omega) (Nat.le_of_ble_eq_true rfl) ?_
            refine mw_iload hX dX2_works_469 rfl ?_
            refine mw_imul hX dX2_works_471 ?_
            refine mw_bp hX 10 dX2_works_472 rfl ?_
            refine mw_idiv hX (by decide) dX2_works_474 ?_
            refine mw_iadd hX dX2_works_475 ?_
            refine mw_iastore hX (j := p) dX2_works_476 (mw_Yl (by decide)) rfl rfl (by omega) (by decide) ?_
            refine mw_aload_n hX dX2_works_477 rfl rfl ?_
            refine mw_iload_n hX dX2_works_478 rfl rfl ?_
            refine mw_cV hX [_] ws_X2_82 dX2_works_479 (c_m_filled (mw_l X) p hp _ L) (mw_Yl (by decide)) mw_YM (by decide) rfl (by omega) (by omega) (by omega) (Nat.le_of_ble_eq_true rfl) ?_
            refine mw_aload_n hX dX2_works_482 rfl rfl ?_
            refine mw_getR hX (r := 41) dX2_works_483 (mw_Yl (by decide)) mw_YM fl_X2_7 (by decide) (by decide) rfl rfl ?_
            refine mw_iload_n hX dX2_works_486 rfl rfl ?_
            refine mw_iaload hX (j := p) dX2_works_487 (mw_Yl (by decide)) rfl rfl (by omega) (by decide) ?_
            refine mw_isub hX dX2_works_488 ?_
            refine mw_istore hX dX2_works_489 (Nat.le_of_ble_eq_true rfl) ?_
            dsimp only [List.set]
            refine mw_iload hX dX2_works_491 rfl ?_
            refine mw_if_le hX (tgt := 537) dX2_works_493 (by decide) (fun h493 => ?_) (fun h493 => ?_)
            · exact mw_return hX hE dX2_works_537 (congrArg (fun z => Sum.inl (none, mw_Y0, z, L)) (show worksI I p h t = _ by rw [worksI, hJ, wkE, ← hvw]; show wkS (wkP J p h t v w (headV J p)) p h t = _; rw [wkP]; simp only [if_pos h415, if_pos h437]; exact if_pos h493)) (by omega) (by omega)
            · refine mw_aload_n hX dX2_works_496 rfl rfl ?_
              refine mw_iload_n hX dX2_works_497 rfl rfl ?_
              refine mw_cV hX [_] ws_X2_86 dX2_works_498 (c_m_richer (mw_l X) p hp _ L) (mw_Yl (by decide)) mw_YM (by decide) rfl (by omega) (by omega) (by omega) (Nat.le_of_ble_eq_true rfl) ?_
              refine mw_istore hX dX2_works_501 (Nat.le_of_ble_eq_true rfl) ?_
              dsimp only [List.set]
              refine mw_aload_n hX dX2_works_503 rfl rfl ?_
              refine mw_getR hX (r := 49) dX2_works_504 (mw_Yl (by decide)) mw_YM fl_X2_34 (by decide) (by decide) rfl rfl ?_
              refine mw_iload_n hX dX2_works_507 rfl rfl ?_
              refine mw_iload hX dX2_works_508 rfl ?_
              refine mw_iadd hX dX2_works_510 ?_
              refine mw_dup2 hX dX2_works_511 ?_
              refine mw_iaload hX (j := 2 * p + richerN _ p) dX2_works_512 (mw_Yl (by decide)) rfl (nI_add _ _) (Nat.lt_of_lt_of_le (Nat.add_lt_add_left (richerN_lt _ _) (2 * p)) (by omega)) (by decide) ?_
              refine mw_iload hX dX2_works_513 rfl ?_
              refine mw_isub hX dX2_works_515 ?_
              refine mw_iastore hX (j := 2 * p + richerN _ p) dX2_works_516 (mw_Yl (by decide)) rfl (nI_add _ _) (Nat.lt_of_lt_of_le (Nat.add_lt_add_left (richerN_lt _ _) (2 * p)) (by omega)) (by decide) ?_
              refine mw_aload_n hX dX2_works_517 rfl rfl ?_
              refine mw_getR hX (r := 54) dX2_works_518 (mw_Yl (by decide)) mw_YM fl_X2_49 (by decide) (by decide) rfl rfl ?_
              refine mw_iload_n hX dX2_works_521 rfl rfl ?_
              refine mw_dup2 hX dX2_works_522 ?_
              refine mw_iaload hX (j := p) dX2_works_523 (mw_Yl (by decide)) rfl rfl (by omega) (by decide) ?_
              refine mw_iload hX dX2_works_524 rfl ?_
              refine mw_iadd hX dX2_works_526 ?_
              refine mw_iastore hX (j := p) dX2_works_527 (mw_Yl (by decide)) rfl rfl (by omega) (by decide) ?_
              refine mw_aload_n hX dX2_works_528 rfl rfl ?_
              refine mw_iload_n hX dX2_works_529 rfl rfl ?_
              refine mw_iload hX dX2_works_530 rfl ?_
              refine mw_iload hX dX2_works_532 rfl ?_
              refine mw_cV hX [_, _, _] ws_X2_89 dX2_works_534 (c_m_sends (mw_l X) p hp _ (richerN_lt _ _) _ h hh t ht _ ((congrFun (((mw_up_ne (by decide))).trans ( ((mw_up_ne (by decide))).trans ( ((mw_up_ne (by decide))).trans ( ((mw_up_ne (by decide))).trans ( ((mw_up_ne (by decide))).trans ( ((fr_snd (by decide) (by decide))).trans ( ((fr_snd (by decide) (by decide))).trans ( ((mw_up_ne (by decide))).trans ( ((mw_up_ne (by decide))).trans (rfl)))))))))) 10).trans hH2) ((congrFun (((mw_up_ne (by decide))).trans ( ((mw_up_ne (by decide))).trans ( ((mw_up_ne (by decide))).trans ( ((mw_up_ne (by decide))).trans ( ((mw_up_ne (by decide))).trans ( ((fr_snd (by decide) (by decide))).trans ( ((fr_snd (by decide) (by decide))).trans ( ((mw_up_ne (by decide))).trans ( ((mw_up_ne (by decide))).trans (rfl)))))))))) p).trans hT2) L) (mw_Yl (by decide)) mw_YM (by decide) rfl (by omega) (by omega) (by omega) (Nat.le_of_ble_eq_true rfl) ?_
              exact mw_return hX hE dX2_works_537 (congrArg (fun z => Sum.inl (none, mw_Y0, z, L)) (show worksI I p h t = _ by rw [worksI, hJ, wkE, ← hvw]; show wkS (wkP J p h t v w (headV J p)) p h t = _; rw [wkP]; simp only [if_pos h415, if_pos h437]; exact if_neg h493)) (by omega) (by omega)
          · refine mw_iload hX dX2_works_440 rfl ?_
            refine mw_iload hX dX2_works_442 rfl ?_
            refine mw_iadd hX dX2_works_444 ?_
            refine mw_goto hX (tgt := 450) dX2_works_445 (by decide) ?_
            refine mw_iastore hX (j := p) dX2_works_450 (mw_Yl (by decide)) rfl rfl (by omega) (by decide) ?_
            refine mw_aload_n hX dX2_works_451 rfl rfl ?_
            refine mw_getR hX (r := 57) dX2_works_452 (mw_Yl (by decide)) mw_YM fl_X2_58 (by decide) (by decide) rfl rfl ?_
            refine mw_iload_n hX dX2_works_455 rfl rfl ?_
            refine mw_dup2 hX dX2_works_456 ?_
            refine mw_iaload hX (j := p) dX2_works_457 (mw_Yl (by decide)) rfl rfl (by omega) (by decide) ?_
            refine mw_aload_n hX dX2_works_458 rfl rfl ?_
            refine mw_iload_n hX dX2_works_459 rfl rfl ?_
            refine mw_aload_n hX dX2_works_460 rfl rfl ?_
            refine mw_getR hX (r := 56) dX2_works_461 (mw_Yl (by decide)) mw_YM fl_X2_55 (by decide) (by decide) rfl rfl ?_
            refine mw_iload_n hX dX2_works_464 rfl rfl ?_
            refine mw_iaload hX (j := p) dX2_works_465 (mw_Yl (by decide)) rfl rfl (by omega) (by decide) ?_
            refine mw_cV hX [_, _] ws_X2_93 dX2_works_466 (c_m_mixed (mw_l X) p hp _ _ L) (mw_Yl (by decide)) mw_YM (by decide) rfl (by omega) (by omega) (by omega) (Nat.le_of_ble_eq_true rfl) ?_
            refine mw_iload hX dX2_works_469 rfl ?_
            refine mw_imul hX dX2_works_471 ?_
            refine mw_bp hX 10 dX2_works_472 rfl ?_
            refine mw_idiv hX (by decide) dX2_works_474 ?_
            refine mw_iadd hX dX2_works_475 ?_
            refine mw_iastore hX (j := p) dX2_works_476 (mw_Yl (by decide)) rfl rfl (by omega) (by decide) ?_
            refine mw_aload_n hX dX2_works_477 rfl rfl ?_
            refine mw_iload_n hX dX2_works_478 rfl rfl ?_
            refine mw_cV hX [_] ws_X2_82 dX2_works_479 (c_m_filled (mw_l X) p hp _ L) (mw_Yl (by decide)) mw_YM (by decide) rfl (by omega) (by omega) (by omega) (Nat.le_of_ble_eq_true rfl) ?_
            refine mw_aload_n hX dX2_works_482 rfl rfl ?_
            refine mw_getR hX (r := 41) dX2_works_483 (mw_Yl (by decide)) mw_YM fl_X2_7 (by decide) (by decide) rfl rfl ?_
            refine mw_iload_n hX dX2_works_486 rfl rfl ?_
            refine mw_iaload hX (j := p) dX2_works_487 (mw_Yl (by decide)) rfl rfl (by omega) (by decide) ?_
            refine mw_isub hX dX2_works_488 ?_
            refine mw_istore hX dX2_works_489 (Nat.le_of_ble_eq_true rfl) ?_
            dsimp only [List.set]
            refine mw_iload hX dX2_works_491 rfl ?_
            refine mw_if_le hX (tgt := 537) dX2_works_493 (by decide) (fun h493 => ?_) (fun h493 => ?_)
            · exact mw_return hX hE dX2_works_537 (congrArg (fun z => Sum.inl (none, mw_Y0, z, L)) (show worksI I p h t = _ by rw [worksI, hJ, wkE, ← hvw]; show wkS (wkP J p h t v w (headV J p)) p h t = _; rw [wkP]; simp only [if_pos h415, if_neg h437]; exact if_pos h493)) (by omega) (by omega)
            · refine mw_aload_n hX dX2_works_496 rfl rfl ?_
              refine mw_iload_n hX dX2_works_497 rfl rfl ?_
              refine mw_cV hX [_] ws_X2_86 dX2_works_498 (c_m_richer (mw_l X) p hp _ L) (mw_Yl (by decide)) mw_YM (by decide) rfl (by omega) (by omega) (by omega) (Nat.le_of_ble_eq_true rfl) ?_
              refine mw_istore hX dX2_works_501 (Nat.le_of_ble_eq_true rfl) ?_
              dsimp only [List.set]
              refine mw_aload_n hX dX2_works_503 rfl rfl ?_
              refine mw_getR hX (r := 49) dX2_works_504 (mw_Yl (by decide)) mw_YM fl_X2_34 (by decide) (by decide) rfl rfl ?_
              refine mw_iload_n hX dX2_works_507 rfl rfl ?_
              refine mw_iload hX dX2_works_508 rfl ?_
              refine mw_iadd hX dX2_works_510 ?_
              refine mw_dup2 hX dX2_works_511 ?_
              refine mw_iaload hX (j := 2 * p + richerN _ p) dX2_works_512 (mw_Yl (by decide)) rfl (nI_add _ _) (Nat.lt_of_lt_of_le (Nat.add_lt_add_left (richerN_lt _ _) (2 * p)) (by omega)) (by decide) ?_
              refine mw_iload hX dX2_works_513 rfl ?_
              refine mw_isub hX dX2_works_515 ?_
              refine mw_iastore hX (j := 2 * p + richerN _ p) dX2_works_516 (mw_Yl (by decide)) rfl (nI_add _ _) (Nat.lt_of_lt_of_le (Nat.add_lt_add_left (richerN_lt _ _) (2 * p)) (by omega)) (by decide) ?_
              refine mw_aload_n hX dX2_works_517 rfl rfl ?_
              refine mw_getR hX (r := 54) dX2_works_518 (mw_Yl (by decide)) mw_YM fl_X2_49 (by decide) (by decide) rfl rfl ?_
              refine mw_iload_n hX dX2_works_521 rfl rfl ?_
              refine mw_dup2 hX dX2_works_522 ?_
              refine mw_iaload hX (j := p) dX2_works_523 (mw_Yl (by decide)) rfl rfl (by omega) (by decide) ?_
              refine mw_iload hX dX2_works_524 rfl ?_
              refine mw_iadd hX dX2_works_526 ?_
              refine mw_iastore hX (j := p) dX2_works_527 (mw_Yl (by decide)) rfl rfl (by omega) (by decide) ?_
              refine mw_aload_n hX dX2_works_528 rfl rfl ?_
              refine mw_iload_n hX dX2_works_529 rfl rfl ?_
              refine mw_iload hX dX2_works_530 rfl ?_
              refine mw_iload hX dX2_works_532 rfl ?_
              refine mw_cV hX [_, _, _] ws_X2_89 dX2_works_534 (c_m_sends (mw_l X) p hp _ (richerN_lt _ _) _ h hh t ht _ ((congrFun (((mw_up_ne (by decide))).trans ( ((mw_up_ne (by decide))).trans ( ((mw_up_ne (by decide))).trans ( ((mw_up_ne (by decide))).trans ( ((mw_up_ne (by decide))).trans ( ((fr_snd (by decide) (by decide))).trans ( ((fr_snd (by decide) (by decide))).trans ( ((mw_up_ne (by decide))).trans ( ((mw_up_ne (by decide))).trans (rfl)))))))))) 10).trans hH2) ((congrFun (((mw_up_ne (by decide))).trans ( ((mw_up_ne (by decide))).trans ( ((mw_up_ne (by decide))).trans ( ((mw_up_ne (by decide))).trans ( ((mw_up_ne (by decide))).trans ( ((fr_snd (by decide) (by decide))).trans ( ((fr_snd (by decide) (by decide))).trans ( ((mw_up_ne (by decide))).trans ( ((mw_up_ne (by decide))).trans (rfl)))))))))) p).trans hT2) L) (mw_Yl (by decide)) mw_YM (by decide) rfl (by omega) (by omega) (by omega) (Nat.le_of_ble_eq_true rfl) ?_
              exact mw_return hX hE dX2_works_537 (congrArg (fun z => Sum.inl (none, mw_Y0, z, L)) (show worksI I p h t = _ by rw [worksI, hJ, wkE, ← hvw]; show wkS (wkP J p h t v w (headV J p)) p h t = _; rw [wkP]; simp only [if_pos h415, if_neg h437]; exact if_neg h493)) (by omega) (by omega)
        · refine mw_ic hX 1 dX2_works_418 rfl ?_
          refine mw_goto hX (tgt := 423) dX2_works_419 (by decide) ?_
          refine mw_iadd hX dX2_works_423 ?_
          refine mw_iastore hX (j := p) dX2_works_424 (mw_Yl (by decide)) rfl rfl (by omega) (by decide) ?_
          refine mw_aload_n hX dX2_works_425 rfl rfl ?_
          refine mw_getR hX (r := 56) dX2_works_426 (mw_Yl (by decide)) mw_YM fl_X2_55 (by decide) (by decide) rfl rfl ?_
          refine mw_iload_n hX dX2_works_429 rfl rfl ?_
          refine mw_iload hX dX2_works_430 rfl ?_
          refine mw_iload hX dX2_works_432 rfl ?_
          refine mw_iadd hX dX2_works_434 ?_
          refine mw_bp hX 16 dX2_works_435 rfl ?_
          refine mw_icmp_ge hX (tgt := 448) dX2_works_437 (by decide) (fun h437 => ?_) (fun h437 => ?_)
          · refine mw_bp hX 16 dX2_works_448 rfl ?_
            refine mw_iastore hX (j := p) dX2_works_450 (mw_Yl (by decide)) rfl rfl (by omega) (by decide) ?_
            refine mw_aload_n hX dX2_works_451 rfl rfl ?_
            refine mw_getR hX (r := 57) dX2_works_452 (mw_Yl (by decide)) mw_YM fl_X2_58 (by decide) (by decide) rfl rfl ?_
            refine mw_iload_n hX dX2_works_455 rfl rfl ?_
            refine mw_dup2 hX dX2_works_456 ?_
            refine mw_iaload hX (j := p) dX2_works_457 (mw_Yl (by decide)) rfl rfl (by omega) (by decide) ?_
            refine mw_aload_n hX dX2_works_458 rfl rfl ?_
            refine mw_iload_n hX dX2_works_459 rfl rfl ?_
            refine mw_aload_n hX dX2_works_460 rfl rfl ?_
            refine mw_getR hX (r := 56) dX2_works_461 (mw_Yl (by decide)) mw_YM fl_X2_55 (by decide) (by decide) rfl rfl ?_
            refine mw_iload_n hX dX2_works_464 rfl rfl ?_
            refine mw_iaload hX (j := p) dX2_works_465 (mw_Yl (by decide)) rfl rfl (by omega) (by decide) ?_
            refine mw_cV hX [_, _] ws_X2_93 dX2_works_466 (c_m_mixed (mw_l X) p hp _ _ L) (mw_Yl (by decide)) mw_YM (by decide) rfl (by omega) (by omega) (by omega) (Nat.le_of_ble_eq_true rfl) ?_
            refine mw_iload hX dX2_works_469 rfl ?_
            refine mw_imul hX dX2_works_471 ?_
            refine mw_bp hX 10 dX2_works_472 rfl ?_
            refine mw_idiv hX (by decide) dX2_works_474 ?_
            refine mw_iadd hX dX2_works_475 ?_
            refine mw_iastore hX (j := p) dX2_works_476 (mw_Yl (by decide)) rfl rfl (by omega) (by decide) ?_
            refine mw_aload_n hX dX2_works_477 rfl rfl ?_
            refine mw_iload_n hX dX2_works_478 rfl rfl ?_
            refine mw_cV hX [_] ws_X2_82 dX2_works_479 (c_m_filled (mw_l X) p hp _ L) (mw_Yl (by decide)) mw_YM (by decide) rfl (by omega) (by omega) (by omega) (Nat.le_of_ble_eq_true rfl) ?_
            refine mw_aload_n hX dX2_works_482 rfl rfl ?_
            refine mw_getR hX (r := 41) dX2_works_483 (mw_Yl (by decide)) mw_YM fl_X2_7 (by decide) (by decide) rfl rfl ?_
            refine mw_iload_n hX dX2_works_486 rfl rfl ?_
            refine mw_iaload hX (j := p) dX2_works_487 (mw_Yl (by decide)) rfl rfl (by omega) (by decide) ?_
            refine mw_isub hX dX2_works_488 ?_
            refine mw_istore hX dX2_works_489 (Nat.le_of_ble_eq_true rfl) ?_
            dsimp only [List.set]
            refine mw_iload hX dX2_works_491 rfl ?_
            refine mw_if_le hX (tgt := 537) dX2_works_493 (by decide) (fun h493 => ?_) (fun h493 => ?_)
            · exact mw_return hX hE dX2_works_537 (congrArg (fun z => Sum.inl (none, mw_Y0, z, L)) (show worksI I p h t = _ by rw [worksI, hJ, wkE, ← hvw]; show wkS (wkP J p h t v w (headV J p)) p h t = _; rw [wkP]; simp only [if_neg h415, if_pos h437]; exact if_pos h493)) (by omega) (by omega)
            · refine mw_aload_n hX dX2_works_496 rfl rfl ?_
              refine mw_iload_n hX dX2_works_497 rfl rfl ?_
              refine mw_cV hX [_] ws_X2_86 dX2_works_498 (c_m_richer (mw_l X) p hp _ L) (mw_Yl (by decide)) mw_YM (by decide) rfl (by omega) (by omega) (by omega) (Nat.le_of_ble_eq_true rfl) ?_
              refine mw_istore hX dX2_works_501 (Nat.le_of_ble_eq_true rfl) ?_
              dsimp only [List.set]
              refine mw_aload_n hX dX2_works_503 rfl rfl ?_
              refine mw_getR hX (r := 49) dX2_works_504 (mw_Yl (by decide)) mw_YM fl_X2_34 (by decide) (by decide) rfl rfl ?_
              refine mw_iload_n hX dX2_works_507 rfl rfl ?_
              refine mw_iload hX dX2_works_508 rfl ?_
              refine mw_iadd hX dX2_works_510 ?_
              refine mw_dup2 hX dX2_works_511 ?_
              refine mw_iaload hX (j := 2 * p + richerN _ p) dX2_works_512 (mw_Yl (by decide)) rfl (nI_add _ _) (Nat.lt_of_lt_of_le (Nat.add_lt_add_left (richerN_lt _ _) (2 * p)) (by omega)) (by decide) ?_
              refine mw_iload hX dX2_works_513 rfl ?_
              refine mw_isub hX dX2_works_515 ?_
              refine mw_iastore hX (j := 2 * p + richerN _ p) dX2_works_516 (mw_Yl (by decide)) rfl (nI_add _ _) (Nat.lt_of_lt_of_le (Nat.add_lt_add_left (richerN_lt _ _) (2 * p)) (by omega)) (by decide) ?_
              refine mw_aload_n hX dX2_works_517 rfl rfl ?_
              refine mw_getR hX (r := 54) dX2_works_518 (mw_Yl (by decide)) mw_YM fl_X2_49 (by decide) (by decide) rfl rfl ?_
              refine mw_iload_n hX dX2_works_521 rfl rfl ?_
              refine mw_dup2 hX dX2_works_522 ?_
              refine mw_iaload hX (j := p) dX2_works_523 (mw_Yl (by decide)) rfl rfl (by omega) (by decide) ?_
              refine mw_iload hX dX2_works_524 rfl ?_
              refine mw_iadd hX dX2_works_526 ?_
              refine mw_iastore hX (j := p) dX2_works_527 (mw_Yl (by decide)) rfl rfl (by omega) (by decide) ?_
              refine mw_aload_n hX dX2_works_528 rfl rfl ?_
              refine mw_iload_n hX dX2_works_529 rfl rfl ?_
              refine mw_iload hX dX2_works_530 rfl ?_
              refine mw_iload hX dX2_works_532 rfl ?_
              refine mw_cV hX [_, _, _] ws_X2_89 dX2_works_534 (c_m_sends (mw_l X) p hp _ (richerN_lt _ _) _ h hh t ht _ ((congrFun (((mw_up_ne (by decide))).trans ( ((mw_up_ne (by decide))).trans ( ((mw_up_ne (by decide))).trans ( ((mw_up_ne (by decide))).trans ( ((mw_up_ne (by decide))).trans ( ((fr_snd (by decide) (by decide))).trans ( ((fr_snd (by decide) (by decide))).trans ( ((mw_up_ne (by decide))).trans ( ((mw_up_ne (by decide))).trans (rfl)))))))))) 10).trans hH2) ((congrFun (((mw_up_ne (by decide))).trans ( ((mw_up_ne (by decide))).trans ( ((mw_up_ne (by decide))).trans ( ((mw_up_ne (by decide))).trans ( ((mw_up_ne (by decide))).trans ( ((fr_snd (by decide) (by decide))).trans ( ((fr_snd (by decide) (by decide))).trans ( ((mw_up_ne (by decide))).trans ( ((mw_up_ne (by decide))).trans (rfl)))))))))) p).trans hT2) L) (mw_Yl (by decide)) mw_YM (by decide) rfl (by omega) (by omega) (by omega) (Nat.le_of_ble_eq_true rfl) ?_
              exact mw_return hX hE dX2_works_537 (congrArg (fun z => Sum.inl (none, mw_Y0, z, L)) (show worksI I p h t = _ by rw [worksI, hJ, wkE, ← hvw]; show wkS (wkP J p h t v w (headV J p)) p h t = _; rw [wkP]; simp only [if_neg h415, if_pos h437]; exact if_neg h493)) (by omega) (by omega)
          · refine mw_iload hX dX2_works_440 rfl ?_
            refine mw_iload hX dX2_works_442 rfl ?_
            refine mw_iadd hX dX2_works_444 ?_
            refine mw_goto hX (tgt := 450) dX2_works_445 (by decide) ?_
            refine mw_iastore hX (j := p) dX2_works_450 (mw_Yl (by decide)) rfl rfl (by omega) (by decide) ?_
            refine mw_aload_n hX dX2_works_451 rfl rfl ?_
            refine mw_getR hX (r := 57) dX2_works_452 (mw_Yl (by decide)) mw_YM fl_X2_58 (by decide) (by decide) rfl rfl ?_
            refine mw_iload_n hX dX2_works_455 rfl rfl ?_
            refine mw_dup2 hX dX2_works_456 ?_
            refine mw_iaload hX (j := p) dX2_works_457 (mw_Yl (by decide)) rfl rfl (by omega) (by decide) ?_
            refine mw_aload_n hX dX2_works_458 rfl rfl ?_
            refine mw_iload_n hX dX2_works_459 rfl rfl ?_
            refine mw_aload_n hX dX2_works_460 rfl rfl ?_
            refine mw_getR hX (r := 56) dX2_works_461 (mw_Yl (by decide)) mw_YM fl_X2_55 (by decide) (by decide) rfl rfl ?_
            refine mw_iload_n hX dX2_works_464 rfl rfl ?_
            refine mw_iaload hX (j := p) dX2_works_465 (mw_Yl (by decide)) rfl rfl (by omega) (by decide) ?_
            refine mw_cV hX [_, _] ws_X2_93 dX2_works_466 (c_m_mixed (mw_l X) p hp _ _ L) (mw_Yl (by decide)) mw_YM (by decide) rfl (by omega) (by omega) (by omega) (Nat.le_of_ble_eq_true rfl) ?_
            refine mw_iload hX dX2_works_469 rfl ?_
            refine mw_imul hX dX2_works_471 ?_
            refine mw_bp hX 10 dX2_works_472 rfl ?_
            refine mw_idiv hX (by decide) dX2_works_474 ?_
            refine mw_iadd hX dX2_works_475 ?_
            refine mw_iastore hX (j := p) dX2_works_476 (mw_Yl (by decide)) rfl rfl (by omega) (by decide) ?_
            refine mw_aload_n hX dX2_works_477 rfl rfl ?_
            refine mw_iload_n hX dX2_works_478 rfl rfl ?_
            refine mw_cV hX [_] ws_X2_82 dX2_works_479 (c_m_filled (mw_l X) p hp _ L) (mw_Yl (by decide)) mw_YM (by decide) rfl (by omega) (by omega) (by omega) (Nat.le_of_ble_eq_true rfl) ?_
            refine mw_aload_n hX dX2_works_482 rfl rfl ?_
            refine mw_getR hX (r := 41) dX2_works_483 (mw_Yl (by decide)) mw_YM fl_X2_7 (by decide) (by decide) rfl rfl ?_
            refine mw_iload_n hX dX2_works_486 rfl rfl ?_
            refine mw_iaload hX (j := p) dX2_works_487 (mw_Yl (by decide)) rfl rfl (by omega) (by decide) ?_
            refine mw_isub hX dX2_works_488 ?_
            refine mw_istore hX dX2_works_489 (Nat.le_of_ble_eq_true rfl) ?_
            dsimp only [List.set]
            refine mw_iload hX dX2_works_491 rfl ?_
            refine mw_if_le hX (tgt := 537) dX2_works_493 (by decide) (fun h493 => ?_) (fun h493 => ?_)
            · exact mw_return hX hE dX2_works_537 (congrArg (fun z => Sum.inl (none, mw_Y0, z, L)) (show worksI I p h t = _ by rw [worksI, hJ, wkE, ← hvw]; show wkS (wkP J p h t v w (headV J p)) p h t = _; rw [wkP]; simp only [if_neg h415, if_neg h437]; exact if_pos h493)) (by omega) (by omega)
            · refine mw_aload_n hX dX2_works_496 rfl rfl ?_
              refine mw_iload_n hX dX2_works_497 rfl rfl ?_
              refine mw_cV hX [_] ws_X2_86 dX2_works_498 (c_m_richer (mw_l X) p hp _ L) (mw_Yl (by decide)) mw_YM (by decide) rfl (by omega) (by omega) (by omega) (Nat.le_of_ble_eq_true rfl) ?_
              refine mw_istore hX dX2_works_501 (Nat.le_of_ble_eq_true rfl) ?_
              dsimp only [List.set]
              refine mw_aload_n hX dX2_works_503 rfl rfl ?_
              refine mw_getR hX (r := 49) dX2_works_504 (mw_Yl (by decide)) mw_YM fl_X2_34 (by decide) (by decide) rfl rfl ?_
              refine mw_iload_n hX dX2_works_507 rfl rfl ?_
              refine mw_iload hX dX2_works_508 rfl ?_
              refine mw_iadd hX dX2_works_510 ?_
              refine mw_dup2 hX dX2_works_511 ?_
              refine mw_iaload hX (j := 2 * p + richerN _ p) dX2_works_512 (mw_Yl (by decide)) rfl (nI_add _ _) (Nat.lt_of_lt_of_le (Nat.add_lt_add_left (richerN_lt _ _) (2 * p)) (by omega)) (by decide) ?_
              refine mw_iload hX dX2_works_513 rfl ?_
              refine mw_isub hX dX2_works_515 ?_
              refine mw_iastore hX (j := 2 * p + richerN _ p) dX2_works_516 (mw_Yl (by decide)) rfl (nI_add _ _) (Nat.lt_of_lt_of_le (Nat.add_lt_add_left (richerN_lt _ _) (2 * p)) (by omega)) (by decide) ?_
              refine mw_aload_n hX dX2_works_517 rfl rfl ?_
              refine mw_getR hX (r := 54) dX2_works_518 (mw_Yl (by decide)) mw_YM fl_X2_49 (by decide) (by decide) rfl rfl ?_
              refine mw_iload_n hX dX2_works_521 rfl rfl ?_
              refine mw_dup2 hX dX2_works_522 ?_
              refine mw_iaload hX (j := p) dX2_works_523 (mw_Yl (by decide)) rfl rfl (by omega) (by decide) ?_
              refine mw_iload hX dX2_works_524 rfl ?_
              refine mw_iadd hX dX2_works_526 ?_
              refine mw_iastore hX (j := p) dX2_works_527 (mw_Yl (by decide)) rfl rfl (by omega) (by decide) ?_
              refine mw_aload_n hX dX2_works_528 rfl rfl ?_
              refine mw_iload_n hX dX2_works_529 rfl rfl ?_
              refine mw_iload hX dX2_works_530 rfl ?_
              refine mw_iload hX dX2_works_532 rfl ?_
              refine mw_cV hX [_, _, _] ws_X2_89 dX2_works_534 (c_m_sends (mw_l X) p hp _ (richerN_lt _ _) _ h hh t ht _ ((congrFun (((mw_up_ne (by decide))).trans ( ((mw_up_ne (by decide))).trans ( ((mw_up_ne (by decide))).trans ( ((mw_up_ne (by decide))).trans ( ((mw_up_ne (by decide))).trans ( ((fr_snd (by decide) (by decide))).trans ( ((fr_snd (by decide) (by decide))).trans ( ((mw_up_ne (by decide))).trans ( ((mw_up_ne (by decide))).trans (rfl)))))))))) 10).trans hH2) ((congrFun (((mw_up_ne (by decide))).trans ( ((mw_up_ne (by decide))).trans ( ((mw_up_ne (by decide))).trans ( ((mw_up_ne (by decide))).trans ( ((mw_up_ne (by decide))).trans ( ((fr_snd (by decide) (by decide))).trans ( ((fr_snd (by decide) (by decide))).trans ( ((mw_up_ne (by decide))).trans ( ((mw_up_ne (by decide))).trans (rfl)))))))))) p).trans hT2) L) (mw_Yl (by decide)) mw_YM (by decide) rfl (by omega) (by omega) (by omega) (Nat.le_of_ble_eq_true rfl) ?_
              exact mw_return hX hE dX2_works_537 (congrArg (fun z => Sum.inl (none, mw_Y0, z, L)) (show worksI I p h t = _ by rw [worksI, hJ, wkE, ← hvw]; show wkS (wkP J p h t v w (headV J p)) p h t = _; rw [wkP]; simp only [if_neg h415, if_neg h437]; exact if_neg h493)) (by omega) (by omega)
      have key243 : ∀ v w : Int32, v = mineV J p → w = otherV J p → mw_G X 243 [some (.ref 40), some (.int (nI p)), some (.int (nI (2 * p))), some (.int (nI (2 * p + 1))), none, some (.int (headV J p)), some (.int v), some (.int w), none, none, none, none] [] mw_Y0 J L 0 0 := by
        intro v w hv hw
        refine mw_iload hX dX2_works_243 rfl ?_
        refine mw_iload hX dX2_works_245 rfl ?_
        refine mw_iadd hX dX2_works_247 ?_
        refine mw_aload_n hX dX2_works_248 rfl rfl ?_
        refine mw_iload_n hX dX2_works_249 rfl rfl ?_
        refine mw_cV hX [_] ws_X2_82 dX2_works_250 (c_m_filled (mw_l X) p hp _ L) (mw_Yl (by decide)) mw_YM (by decide) rfl (by omega) (by omega) (by omega) (Nat.le_of_ble_eq_true rfl) ?_
        refine mw_isub hX dX2_works_253 ?_
        refine mw_istore hX dX2_works_254 (Nat.le_of_ble_eq_true rfl) ?_
        dsimp only [List.set]
        refine mw_iload hX dX2_works_256 rfl ?_
        refine mw_if_le hX (tgt := 359) dX2_works_258 (by decide) (fun h258 => ?_) (fun h258 => ?_)
        · refine mw_drop 9 ?_
          dsimp only [List.set]
          refine mw_drop 10 ?_
          dsimp only [List.set]
          refine mw_drop 11 ?_
          dsimp only [List.set]
          exact key359 _ _ (by rw [← hv, ← hw]; rw [cutV, if_pos h258])
        · refine mw_aload_n hX dX2_works_261 rfl rfl ?_
          refine mw_getR hX (r := 49) dX2_works_262 (mw_Yl (by decide)) mw_YM fl_X2_34 (by decide) (by decide) rfl rfl ?_
          refine mw_iload_n hX dX2_works_265 rfl rfl ?_
          refine mw_iaload hX (j := 2 * p) dX2_works_266 (mw_Yl (by decide)) rfl (by simp only [mw_n0, mw_n1, mw_n2, mw_n3, mw_n4, mw_n5, mw_n6, mw_n8, mw_n9, mw_n18, mw_n210, mw_n260, pk_mul, nI_add]) (by omega) (by decide) ?_
          refine mw_iload hX dX2_works_267 rfl ?_
          refine mw_isub hX dX2_works_269 ?_
          refine mw_aload_n hX dX2_works_270 rfl rfl ?_
          refine mw_getR hX (r := 49) dX2_works_271 (mw_Yl (by decide)) mw_YM fl_X2_34 (by decide) (by decide) rfl rfl ?_
          refine mw_iload_n hX dX2_works_274 rfl rfl ?_
          refine mw_iaload hX (j := 2 * p + 1) dX2_works_275 (mw_Yl (by decide)) rfl (by simp only [mw_n0, mw_n1, mw_n2, mw_n3, mw_n4, mw_n5, mw_n6, mw_n8, mw_n9, mw_n18, mw_n210, mw_n260, pk_mul, nI_add]) (by omega) (by decide) ?_
          refine mw_iload hX dX2_works_276 rfl ?_
          refine mw_isub hX dX2_works_278 ?_
          refine mw_icmp_ge hX (tgt := 286) dX2_works_279 (by decide) (fun h279 => ?_) (fun h279 => ?_)
          · refine mw_ic hX 0 dX2_works_286 rfl ?_
            refine mw_istore hX dX2_works_287 (Nat.le_of_ble_eq_true rfl) ?_
            dsimp only [List.set]
            refine mw_iload hX dX2_works_289 rfl ?_
            refine mw_if_eq hX (tgt := 299) dX2_works_291 (by decide) (fun h291 => ?_) (fun h291 => ?_)
            · refine mw_iload hX dX2_works_299 rfl ?_
              refine mw_istore hX dX2_works_301 (Nat.le_of_ble_eq_true rfl) ?_
              dsimp only [List.set]
              refine mw_iload hX dX2_works_303 rfl ?_
              refine mw_iload hX dX2_works_305 rfl ?_
              refine mw_icmp_ge hX (tgt := 315) dX2_works_307 (by decide) (fun h307 => ?_) (fun h307 => ?_)
              · refine mw_iload hX dX2_works_315 rfl ?_
                refine mw_istore hX dX2_works_317 (Nat.le_of_ble_eq_true rfl) ?_
                dsimp only [List.set]
                refine mw_iload hX dX2_works_319 rfl ?_
                refine mw_iload hX dX2_works_321 rfl ?_
                refine mw_if_eq hX (tgt := 331) dX2_works_323 (by decide) (fun h323 => ?_) (fun h323 => ?_)
                · refine mw_iload hX dX2_works_331 rfl ?_
                  refine mw_iload hX dX2_works_333 rfl ?_
                  refine mw_isub hX dX2_works_335 ?_
                  refine mw_isub hX dX2_works_336 ?_
                  refine mw_istore hX dX2_works_337 (Nat.le_of_ble_eq_true rfl) ?_
                  dsimp only [List.set]
                  refine mw_iload hX dX2_works_339 rfl ?_
                  refine mw_iload hX dX2_works_341 rfl ?_
                  refine mw_if_eq hX (tgt := 354) dX2_works_343 (by decide) (fun h343 => ?_) (fun h343 => ?_)
                  · refine mw_iload hX dX2_works_354 rfl ?_
                    refine mw_isub hX dX2_works_356 ?_
                    refine mw_istore hX dX2_works_357 (Nat.le_of_ble_eq_true rfl) ?_
                    dsimp only [List.set]
                    refine mw_drop 9 ?_
                    dsimp only [List.set]
                    refine mw_drop 10 ?_
                    dsimp only [List.set]
                    refine mw_drop 11 ?_
                    dsimp only [List.set]
                    exact key359 _ _ (by rw [← hv, ← hw]; rw [cutV, if_neg h258, if_pos h279, cut2V]; simp only [if_pos h307, if_true, if_false, Bool.false_eq_true])
                  · exact absurd h343 (fun q => q rfl)
                · exact absurd h323 (fun q => q rfl)
              · refine mw_iload hX dX2_works_310 rfl ?_
                refine mw_goto hX (tgt := 317) dX2_works_312 (by decide) ?_
                refine mw_istore hX dX2_works_317 (Nat.le_of_ble_eq_true rfl) ?_
                dsimp only [List.set]
                refine mw_iload hX dX2_works_319 rfl ?_
                refine mw_iload hX dX2_works_321 rfl ?_
                refine mw_if_eq hX (tgt := 331) dX2_works_323 (by decide) (fun h323 => ?_) (fun h323 => ?_)
                · refine mw_iload hX dX2_works_331 rfl ?_
                  refine mw_iload hX dX2_works_333 rfl ?_
                  refine mw_isub hX dX2_works_335 ?_
                  refine mw_isub hX dX2_works_336 ?_
                  refine mw_istore hX dX2_works_337 (Nat.le_of_ble_eq_true rfl) ?_
                  dsimp only [List.set]
                  refine mw_iload hX dX2_works_339 rfl ?_
                  refine mw_iload hX dX2_works_341 rfl ?_
                  refine mw_if_eq hX (tgt := 354) dX2_works_343 (by decide) (fun h343 => ?_) (fun h343 => ?_)
                  · refine mw_iload hX dX2_works_354 rfl ?_
                    refine mw_isub hX dX2_works_356 ?_
                    refine mw_istore hX dX2_works_357 (Nat.le_of_ble_eq_true rfl) ?_
                    dsimp only [List.set]
                    refine mw_drop 9 ?_
                    dsimp only [List.set]
                    refine mw_drop 10 ?_
                    dsimp only [List.set]
                    refine mw_drop 11 ?_
                    dsimp only [List.set]
                    exact key359 _ _ (by rw [← hv, ← hw]; rw [cutV, if_neg h258, if_pos h279, cut2V]; simp only [if_neg h307, if_true, if_false, Bool.false_eq_true])
                  · exact absurd h343 (fun q => q rfl)
                · exact absurd h323 (fun q => q rfl)
            · exact absurd h291 (fun q => q rfl)
          · refine mw_ic hX 1 dX2_works_282 rfl ?_
            refine mw_goto hX (tgt := 287) dX2_works_283 (by decide) ?_
            refine mw_istore hX dX2_works_287 (Nat.le_of_ble_eq_true rfl) ?_
            dsimp only [List.set]
            refine mw_iload hX dX2_works_289 rfl ?_
            refine mw_if_eq hX (tgt := 299) dX2_works_291 (by decide) (fun h291 => ?_) (fun h291 => ?_)
            · exact absurd h291 (by decide)
            · refine mw_iload hX dX2_works_294 rfl ?_
              refine mw_goto hX (tgt := 301) dX2_works_296 (by decide) ?_
              refine mw_istore hX dX2_works_301 (Nat.le_of_ble_eq_true rfl) ?_
              dsimp only [List.set]
              refine mw_iload hX dX2_works_303 rfl ?_
              refine mw_iload hX dX2_works_305 rfl ?_
              refine mw_icmp_ge hX (tgt := 315) dX2_works_307 (by decide) (fun h307 => ?_) (fun h307 => ?_)
              · refine mw_iload hX dX2_works_315 rfl ?_
                refine mw_istore hX dX2_works_317 (Nat.le_of_ble_eq_true rfl) ?_
                dsimp only [List.set]
                refine mw_iload hX dX2_works_319 rfl ?_
                refine mw_iload hX dX2_works_321 rfl ?_
                refine mw_if_eq hX (tgt := 331) dX2_works_323 (by decide) (fun h323 => ?_) (fun h323 => ?_)
                · exact absurd h323 (by decide)
                · refine mw_iload hX dX2_works_326 rfl ?_
                  refine mw_goto hX (tgt := 336) dX2_works_328 (by decide) ?_
                  refine mw_isub hX dX2_works_336 ?_
                  refine mw_istore hX dX2_works_337 (Nat.le_of_ble_eq_true rfl) ?_
                  dsimp only [List.set]
                  refine mw_iload hX dX2_works_339 rfl ?_
                  refine mw_iload hX dX2_works_341 rfl ?_
                  refine mw_if_eq hX (tgt := 354) dX2_works_343 (by decide) (fun h343 => ?_) (fun h343 => ?_)
                  · exact absurd h343 (by decide)
                  · refine mw_iload hX dX2_works_346 rfl ?_
                    refine mw_iload hX dX2_works_348 rfl ?_
                    refine mw_isub hX dX2_works_350 ?_
                    refine mw_goto hX (tgt := 356) dX2_works_351 (by decide) ?_
                    refine mw_isub hX dX2_works_356 ?_
                    refine mw_istore hX dX2_works_357 (Nat.le_of_ble_eq_true rfl) ?_
                    dsimp only [List.set]
                    refine mw_drop 9 ?_
                    dsimp only [List.set]
                    refine mw_drop 10 ?_
                    dsimp only [List.set]
                    refine mw_drop 11 ?_
                    dsimp only [List.set]
                    exact key359 _ _ (by rw [← hv, ← hw]; rw [cutV, if_neg h258, if_neg h279, cut2V]; simp only [if_pos h307, if_true, if_false, Bool.false_eq_true])
              · refine mw_iload hX dX2_works_310 rfl ?_
                refine mw_goto hX (tgt := 317) dX2_works_312 (by decide) ?_
                refine mw_istore hX dX2_works_317 (Nat.le_of_ble_eq_true rfl) ?_
                dsimp only [List.set]
                refine mw_iload hX dX2_works_319 rfl ?_
                refine mw_iload hX dX2_works_321 rfl ?_
                refine mw_if_eq hX (tgt := 331) dX2_works_323 (by decide) (fun h323 => ?_) (fun h323 => ?_)
                · exact absurd h323 (by decide)
                · refine mw_iload hX dX2_works_326 rfl ?_
                  refine mw_goto hX (tgt := 336) dX2_works_328 (by decide) ?_
                  refine mw_isub hX dX2_works_336 ?_
                  refine mw_istore hX dX2_works_337 (Nat.le_of_ble_eq_true rfl) ?_
                  dsimp only [List.set]
                  refine mw_iload hX dX2_works_339 rfl ?_
                  refine mw_iload hX dX2_works_341 rfl ?_
                  refine mw_if_eq hX (tgt := 354) dX2_works_343 (by decide) (fun h343 => ?_) (fun h343 => ?_)
                  · exact absurd h343 (by decide)
                  · refine mw_iload hX dX2_works_346 rfl ?_
                    refine mw_iload hX dX2_works_348 rfl ?_
                    refine mw_isub hX dX2_works_350 ?_
                    refine mw_goto hX (tgt := 356) dX2_works_351 (by decide) ?_
                    refine mw_isub hX dX2_works_356 ?_
                    refine mw_istore hX dX2_works_357 (Nat.le_of_ble_eq_true rfl) ?_
                    dsimp only [List.set]
                    refine mw_drop 9 ?_
                    dsimp only [List.set]
                    refine mw_drop 10 ?_
                    dsimp only [List.set]
                    refine mw_drop 11 ?_
                    dsimp only [List.set]
                    exact key359 _ _ (by rw [← hv, ← hw]; rw [cutV, if_neg h258, if_neg h279, cut2V]; simp only [if_neg h307, if_true, if_false, Bool.false_eq_true])
      refine mw_iload hX dX2_works_194 rfl ?_
      refine mw_iload hX dX2_works_196 rfl ?_
      refine mw_if_le hX (tgt := 214) dX2_works_198 (by decide) (fun h198 => ?_) (fun h198 => ?_)
      · refine mw_ic hX 0 dX2_works_214 rfl ?_
        refine mw_iadd hX dX2_works_215 ?_
        refine mw_istore hX dX2_works_216 (Nat.le_of_ble_eq_true rfl) ?_
        dsimp only [List.set]
        refine mw_iload hX dX2_works_218 rfl ?_
        refine mw_iload hX dX2_works_220 rfl ?_
        refine mw_if_le hX (tgt := 239) dX2_works_222 (by decide) (fun h222 => ?_) (fun h222 => ?_)
        · refine mw_ic hX 0 dX2_works_239 rfl ?_
          refine mw_iadd hX dX2_works_240 ?_
          refine mw_istore hX dX2_works_241 (Nat.le_of_ble_eq_true rfl) ?_
          dsimp only [List.set]
          refine mw_drop 8 ?_
          dsimp only [List.set]
          exact key243 _ _ (by rw [mineV, if_pos (c := lacksV J p ≤ 0) h198] <;> rfl) (by rw [otherV, if_pos (c := lacksV J p ≤ 0) h222] <;> rfl)
        · exact absurd h198 h222
      · refine mw_aload_n hX dX2_works_201 rfl rfl ?_
        refine mw_iload_n hX dX2_works_202 rfl rfl ?_
        refine mw_cV hX [_] ws_X2_86 dX2_works_203 (c_m_richer (mw_l X) p hp _ L) (mw_Yl (by decide)) mw_YM (by decide) rfl (by omega) (by omega) (by omega) (Nat.le_of_ble_eq_true rfl) ?_
        refine mw_if_ne hX (tgt := 214) dX2_works_206 (by decide) (fun h206 => ?_) (fun h206 => ?_)
        · refine mw_ic hX 0 dX2_works_214 rfl ?_
          refine mw_iadd hX dX2_works_215 ?_
          refine mw_istore hX dX2_works_216 (Nat.le_of_ble_eq_true rfl) ?_
          dsimp only [List.set]
          refine mw_iload hX dX2_works_218 rfl ?_
          refine mw_iload hX dX2_works_220 rfl ?_
          refine mw_if_le hX (tgt := 239) dX2_works_222 (by decide) (fun h222 => ?_) (fun h222 => ?_)
          · exact absurd h222 h198
          · refine mw_aload_n hX dX2_works_225 rfl rfl ?_
            refine mw_iload_n hX dX2_works_226 rfl rfl ?_
            refine mw_cV hX [_] ws_X2_86 dX2_works_227 (c_m_richer (mw_l X) p hp _ L) (mw_Yl (by decide)) mw_YM (by decide) rfl (by omega) (by omega) (by omega) (Nat.le_of_ble_eq_true rfl) ?_
            refine mw_ic hX 1 dX2_works_230 rfl ?_
            refine mw_icmp_ne hX (tgt := 239) dX2_works_231 (by decide) (fun h231 => ?_) (fun h231 => ?_)
            · refine mw_ic hX 0 dX2_works_239 rfl ?_
              refine mw_iadd hX dX2_works_240 ?_
              refine mw_istore hX dX2_works_241 (Nat.le_of_ble_eq_true rfl) ?_
              dsimp only [List.set]
              refine mw_drop 8 ?_
              dsimp only [List.set]
              exact key243 _ _ (by rw [mineV, if_neg (c := lacksV J p ≤ 0) h198, if_pos h206] <;> rfl) (by rw [otherV, if_neg (c := lacksV J p ≤ 0) h222, if_pos h231] <;> rfl)
            · refine mw_iload hX dX2_works_234 rfl ?_
              refine mw_goto hX (tgt := 240) dX2_works_236 (by decide) ?_
              refine mw_iadd hX dX2_works_240 ?_
              refine mw_istore hX dX2_works_241 (Nat.le_of_ble_eq_true rfl) ?_
              dsimp only [List.set]
              refine mw_drop 8 ?_
              dsimp only [List.set]
              exact key243 _ _ (by rw [mineV, if_neg (c := lacksV J p ≤ 0) h198, if_pos h206] <;> rfl) (by rw [otherV, if_neg (c := lacksV J p ≤ 0) h222, if_neg (fun q => q h231)] <;> rfl)
        · refine mw_iload hX dX2_works_209 rfl ?_
          refine mw_goto hX (tgt := 215) dX2_works_211 (by decide) ?_
          refine mw_iadd hX dX2_works_215 ?_
          refine mw_istore hX dX2_works_216 (Nat.le_of_ble_eq_true rfl) ?_
          dsimp only [List.set]
          refine mw_iload hX dX2_works_218 rfl ?_
          refine mw_iload hX dX2_works_220 rfl ?_
          refine mw_if_le hX (tgt := 239) dX2_works_222 (by decide) (fun h222 => ?_) (fun h222 => ?_)
          · exact absurd h222 h198
          · refine mw_aload_n hX dX2_works_225 rfl rfl ?_
            refine mw_iload_n hX dX2_works_226 rfl rfl ?_
            refine mw_cV hX [_] ws_X2_86 dX2_works_227 (c_m_richer (mw_l X) p hp _ L) (mw_Yl (by decide)) mw_YM (by decide) rfl (by omega) (by omega) (by omega) (Nat.le_of_ble_eq_true rfl) ?_
            refine mw_ic hX 1 dX2_works_230 rfl ?_
            refine mw_icmp_ne hX (tgt := 239) dX2_works_231 (by decide) (fun h231 => ?_) (fun h231 => ?_)
            · refine mw_ic hX 0 dX2_works_239 rfl ?_
              refine mw_iadd hX dX2_works_240 ?_
              refine mw_istore hX dX2_works_241 (Nat.le_of_ble_eq_true rfl) ?_
              dsimp only [List.set]
              refine mw_drop 8 ?_
              dsimp only [List.set]
              exact key243 _ _ (by rw [mineV, if_neg (c := lacksV J p ≤ 0) h198, if_neg (fun q => q h206)] <;> rfl) (by rw [otherV, if_neg (c := lacksV J p ≤ 0) h222, if_pos h231] <;> rfl)
            · refine mw_iload hX dX2_works_234 rfl ?_
              refine mw_goto hX (tgt := 240) dX2_works_236 (by decide) ?_
              refine mw_iadd hX dX2_works_240 ?_
              refine mw_istore hX dX2_works_241 (Nat.le_of_ble_eq_true rfl) ?_
              dsimp only [List.set]
              refine mw_drop 8 ?_
              dsimp only [List.set]
              exact key243 _ _ (by rw [mineV, if_neg (c := lacksV J p ≤ 0) h198, if_neg (fun q => q h206)] <;> rfl) (by rw [otherV, if_neg (c := lacksV J p ≤ 0) h222, if_neg (fun q => q h231)] <;> rfl)
    · exact absurd (nI_le (a := 2) (b := 2) (by omega) (by omega)) h14
  · intro o hso ho iho
    show mw_G X 11 [some (.ref 40), some (.int (nI p)), some (.int (nI (2 * p))), some (.int (nI (2 * p + 1))), some (.int (nI (o))), none, none, none, none, none, none, none] [] mw_Y0 (lpN (wk1 p h) o I) (L) 0 0
    refine mw_iload hX dX2_works_11 rfl ?_
    refine mw_ic hX 2 dX2_works_13 rfl ?_
    refine mw_icmp_ge hX (tgt := 72) dX2_works_14 (by decide) (fun h14 => ?_) (fun h14 => ?_)
    · exact absurd h14 (nI_ge (a := o) (b := 2) (by omega) (by omega))
    · refine mw_aload_n hX dX2_works_17 rfl rfl ?_
      refine mw_getR hX (r := 49) dX2_works_18 (mw_Yl (by decide)) mw_YM fl_X2_34 (by decide) (by decide) rfl rfl ?_
      refine mw_iload_n hX dX2_works_21 rfl rfl ?_
      refine mw_iload hX dX2_works_22 rfl ?_
      refine mw_iadd hX dX2_works_24 ?_
      refine mw_dup2 hX dX2_works_25 ?_
      refine mw_iaload hX (j := 2 * p + o) dX2_works_26 (mw_Yl (by decide)) rfl (nI_add _ _) (by omega) (by decide) ?_
      refine mw_aload_n hX dX2_works_27 rfl rfl ?_
      refine mw_getR hX (r := 50) dX2_works_28 (mw_Yl (by decide)) mw_YM fl_X2_37 (by decide) (by decide) rfl rfl ?_
      refine mw_sp hX 210 dX2_works_31 rfl ?_
      refine mw_iload_n hX dX2_works_34 rfl rfl ?_
      refine mw_iload hX dX2_works_35 rfl ?_
      refine mw_iadd hX dX2_works_37 ?_
      refine mw_imul hX dX2_works_38 ?_
      refine mw_aload_n hX dX2_works_39 rfl rfl ?_
      refine mw_getI hX dX2_works_40 (mw_Yl (by decide)) mw_YM fl_X2_79 (by decide) (by decide) rfl ?_
      rw [fr_wkA (by decide) (by decide), hH]
      refine mw_iadd hX dX2_works_43 ?_
      refine mw_iaload hX (j := 210 * (2 * p + o) + h) dX2_works_44 (mw_Yl (by decide)) rfl (by rw [mw_n210, nI_add, pk_mul, nI_add]) (by omega) (by decide) ?_
      refine mw_iadd hX dX2_works_45 ?_
      refine mw_iastore hX (j := 2 * p + o) dX2_works_46 (mw_Yl (by decide)) rfl (nI_add _ _) (by omega) (by decide) ?_
      refine mw_aload_n hX dX2_works_47 rfl rfl ?_
      refine mw_getR hX (r := 50) dX2_works_48 (mw_Yl (by decide)) mw_YM fl_X2_37 (by decide) (by decide) rfl rfl ?_
      refine mw_sp hX 210 dX2_works_51 rfl ?_
      refine mw_iload_n hX dX2_works_54 rfl rfl ?_
      refine mw_iload hX dX2_works_55 rfl ?_
      refine mw_iadd hX dX2_works_57 ?_
      refine mw_imul hX dX2_works_58 ?_
      refine mw_aload_n hX dX2_works_59 rfl rfl ?_
      refine mw_getI hX dX2_works_60 (mw_Yl (by decide)) mw_YM fl_X2_79 (by decide) (by decide) rfl ?_
      rw [mw_up_ne (a := 40) (by decide), fr_wkA (by decide) (by decide), hH]
      refine mw_iadd hX dX2_works_63 ?_
      refine mw_ic hX 0 dX2_works_64 rfl ?_
      refine mw_iastore hX (j := 210 * (2 * p + o) + h) dX2_works_65 (mw_Yl (by decide)) rfl (by rw [mw_n210, nI_add, pk_mul, nI_add]) (by omega) (by decide) ?_
      refine mw_inc hX (nI (o + 1)) dX2_works_66 rfl (mw_inc1 _) ?_
      dsimp only [List.set]
      refine mw_goto hX (tgt := 11) dX2_works_69 (by decide) ?_
      exact iho
def mhourI (tt : Nat → Nat) (h : Nat) (J : mw_I) : mw_I :=
  let J1 := lpN (fun p J => worksI J p h (tt p)) 3 J
  mw_up J1 40 10 (J1 40 10 + 1)
def mrunI (tt : Nat → Nat) (h q : Nat) (I : mw_I) : mw_I := lpN (fun k J => mhourI tt (h + k) J) q (mw_up I 40 19 0)
theorem mruns_f {I : mw_I} {tt : Nat → Nat} {h n a : Nat} (h0 : a < 47) : lpN (fun p J => worksI J p h (tt p)) n I a = I a := lpN_inv (P := fun (J : mw_I) => J a = I a) n (fun _ _ _ hz => (fr_works (by omega) (by omega) (by omega) (by omega) (by omega) (by omega) (by omega) (by omega)).trans hz) rfl
theorem mhours_f {I : mw_I} {tt : Nat → Nat} {h n a : Nat} (h0 : a < 47) (h1 : a ≠ 40) : lpN (fun k J => mhourI tt (h + k) J) n I a = I a := lpN_inv (P := fun (J : mw_I) => J a = I a) n (fun _ _ z hz => by
  show mw_up _ 40 10 _ a = _
  rw [mw_up_ne h1, mruns_f h0]
  exact hz) rfl
theorem mhours_h {I : mw_I} {tt : Nat → Nat} {h : Nat} (hH : I 40 10 = nI h) : ∀ n : Nat, lpN (fun k J => mhourI tt (h + k) J) n I 40 10 = nI (h + n)
  | 0 => hH
  | n + 1 => by
    rw [lpN_succ, mhourI, mw_up_at, mruns_f (by decide), mhours_h hH n, nI_1]
    rfl
set_option maxRecDepth 20000 in
theorem c_m_runX (l : Launch) (q : Int32) (h : ¬ okR q 1 24) (I : mw_I) (L : mw_L) : mw_CT l yX2_run (.code yX2_run cX2_run 4 (some .int)) 4 0 0 [.ref 40, .int q] (mw_Y0, I, L) (.inl (some (.int 0), mw_Y0, mw_up I 40 19 1, L)) := by
  refine mw_enter RX2 rfl (by decide +kernel) (mw_cat rfl) (Nat.le_of_ble_eq_true rfl) (fun X hX hl hE hT hnm => ?_)
  subst hl
  show mw_G X 0 [some (.ref 40), some (.int q), none, none] [] mw_Y0 I L 0 0
  refine mw_aload_n hX dX2_run_0 rfl rfl ?_
  refine mw_iload_n hX dX2_run_1 rfl rfl ?_
  refine mw_ic hX 1 dX2_run_2 rfl ?_
  refine mw_bp hX 24 dX2_run_3 rfl ?_
  refine mw_cS hX [_, _, _] ws_X2_68 dX2_run_5 (c_isInX (mw_l X) q 1 24 h mw_Y0 I L) rfl (by omega) (by omega) (by omega) (Nat.le_of_ble_eq_true rfl) ?_
  refine mw_if_ne hX (tgt := 15) dX2_run_8 (by decide) (fun h8 => ?_) (fun h8 => ?_)
  · exact absurd h8 (fun q => q rfl)
  · refine mw_ic hX 1 dX2_run_11 rfl ?_
    refine mw_goto hX (tgt := 32) dX2_run_12 (by decide) ?_
    refine mw_putI hX dX2_run_32 (mw_Yl (by decide)) mw_YM fl_X2_64 (by decide) (by decide) rfl ?_
    refine mw_aload_n hX dX2_run_35 rfl rfl ?_
    refine mw_getI hX dX2_run_36 (mw_Yl (by decide)) mw_YM fl_X2_64 (by decide) (by decide) rfl ?_
    refine mw_if_le hX (tgt := 44) dX2_run_39 (by decide) (fun h39 => ?_) (fun h39 => ?_)
    · exact absurd h39 (by rw [mw_up_at]; decide)
    · refine mw_ic hX 0 dX2_run_42 rfl ?_
      exact mw_ireturn hX hE dX2_run_43 (rfl) (by omega) (by omega)
set_option maxRecDepth 20000 in
theorem c_m_runS (l : Launch) (q : Nat) (hq0 : 1 ≤ q) (hq : q < 25) (h : Nat) (hh : h < 201) (hs : 200 < h + q) (I : mw_I) (hH : I 40 10 = nI h) (L : mw_L) : mw_CT l yX2_run (.code yX2_run cX2_run 4 (some .int)) 4 0 0 [.ref 40, .int (nI q)] (mw_Y0, I, L) (.inl (some (.int 0), mw_Y0, mw_up I 40 19 2, L)) := by
  refine mw_enter RX2 rfl (by decide +kernel) (mw_cat rfl) (Nat.le_of_ble_eq_true rfl) (fun X hX hl hE hT hnm => ?_)
  subst hl
  show mw_G X 0 [some (.ref 40), some (.int (nI q)), none, none] [] mw_Y0 I L 0 0
  refine mw_aload_n hX dX2_run_0 rfl rfl ?_
  refine mw_iload_n hX dX2_run_1 rfl rfl ?_
  refine mw_ic hX 1 dX2_run_2 rfl ?_
  refine mw_bp hX 24 dX2_run_3 rfl ?_
  refine mw_cS hX [_, _, _] ws_X2_68 dX2_run_5 (c_isIn (mw_l X) (nI q) 1 24 ⟨nI_nlt (a := q) (b := 1) hq0 (by omega), nI_le (a := q) (b := 24) (by omega) (by decide)⟩ mw_Y0 I L) rfl (by omega) (by omega) (by omega) (Nat.le_of_ble_eq_true rfl) ?_
  refine mw_if_ne hX (tgt := 15) dX2_run_8 (by decide) (fun h8 => ?_) (fun h8 => ?_)
  · refine mw_aload_n hX dX2_run_15 rfl rfl ?_
    refine mw_getI hX dX2_run_16 (mw_Yl (by decide)) mw_YM fl_X2_79 (by decide) (by decide) rfl ?_
    rw [hH]
    refine mw_iload_n hX dX2_run_19 rfl rfl ?_
    refine mw_iadd hX dX2_run_20 ?_
    rw [nI_add]
    refine mw_sp hX 200 dX2_run_21 rfl ?_
    refine mw_icmp_le hX (tgt := 31) dX2_run_24 (by decide) (fun h24 => ?_) (fun h24 => ?_)
    · exact absurd h24 (nI_ge (a := 200) (b := h + q) hs (by omega))
    · refine mw_ic hX 2 dX2_run_27 rfl ?_
      refine mw_goto hX (tgt := 32) dX2_run_28 (by decide) ?_
      refine mw_putI hX dX2_run_32 (mw_Yl (by decide)) mw_YM fl_X2_64 (by decide) (by decide) rfl ?_
      refine mw_aload_n hX dX2_run_35 rfl rfl ?_
      refine mw_getI hX dX2_run_36 (mw_Yl (by decide)) mw_YM fl_X2_64 (by decide) (by decide) rfl ?_
      refine mw_if_le hX (tgt := 44) dX2_run_39 (by decide) (fun h39 => ?_) (fun h39 => ?_)
      · exact absurd h39 (by rw [mw_up_at]; decide)
      · refine mw_ic hX 0 dX2_run_42 rfl ?_
        exact mw_ireturn hX hE dX2_run_43 (rfl) (by omega) (by omega)
  · exact absurd h8 (by decide)
set_option maxRecDepth 20000 in
theorem c_m_run (l : Launch) (q : Nat) (hq0 : 1 ≤ q) (hq : q < 25) (h : Nat) (hs : h + q ≤ 200) (tt : Nat → Nat) (I : mw_I) (hH : I 40 10 = nI h) (ht : ∀ i, i < 3 → tt i < 6 ∧ I 43 i = nI (tt i)) (L : mw_L) : mw_CT l yX2_run (.code yX2_run cX2_run 4 (some .int)) 4 0 0 [.ref 40, .int (nI q)] (mw_Y0, I, L) (.inl (some (.int (mrunI tt h q I 40 10)), mw_Y0, mrunI tt h q I, L)) := by
  refine mw_enter RX2 rfl (by decide +kernel) (mw_cat rfl) (Nat.le_of_ble_eq_true rfl) (fun X hX hl hE hT hnm => ?_)
  subst hl
  show mw_G X 0 [some (.ref 40), some (.int (nI q)), none, none] [] mw_Y0 I L 0 0
  refine mw_aload_n hX dX2_run_0 rfl rfl ?_
  refine mw_iload_n hX dX2_run_1 rfl rfl ?_
  refine mw_ic hX 1 dX2_run_2 rfl ?_
  refine mw_bp hX 24 dX2_run_3 rfl ?_
  refine mw_cS hX [_, _, _] ws_X2_68 dX2_run_5 (c_isIn (mw_l X) (nI q) 1 24 ⟨nI_nlt (a := q) (b := 1) hq0 (by omega), nI_le (a := q) (b := 24) (by omega) (by decide)⟩ mw_Y0 I L) rfl (by omega) (by omega) (by omega) (Nat.le_of_ble_eq_true rfl) ?_
  refine mw_if_ne hX (tgt := 15) dX2_run_8 (by decide) (fun h8 => ?_) (fun h8 => ?_)
  · refine mw_aload_n hX dX2_run_15 rfl rfl ?_
    refine mw_getI hX dX2_run_16 (mw_Yl (by decide)) mw_YM fl_X2_79 (by decide) (by decide) rfl ?_
    rw [hH]
    refine mw_iload_n hX dX2_run_19 rfl rfl ?_
    refine mw_iadd hX dX2_run_20 ?_
    rw [nI_add]
    refine mw_sp hX 200 dX2_run_21 rfl ?_
    refine mw_icmp_le hX (tgt := 31) dX2_run_24 (by decide) (fun h24 => ?_) (fun h24 => ?_)
    · refine mw_ic hX 0 dX2_run_31 rfl ?_
      refine mw_putI hX dX2_run_32 (mw_Yl (by decide)) mw_YM fl_X2_64 (by decide) (by decide) rfl ?_
      have hH0 : mw_up I 40 19 0 40 10 = nI h := (mw_up_nj (by decide)).trans hH
      refine mw_aload_n hX dX2_run_35 rfl rfl ?_
      refine mw_getI hX dX2_run_36 (mw_Yl (by decide)) mw_YM fl_X2_64 (by decide) (by decide) rfl ?_
      refine mw_if_le hX (tgt := 44) dX2_run_39 (by decide) (fun h39 => ?_) (fun h39 => ?_)
      · refine mw_ic hX 0 dX2_run_44 rfl ?_
        refine mw_istore_n hX dX2_run_45 rfl (Nat.le_of_ble_eq_true rfl) ?_
        dsimp only [List.set]
        refine mw_drop 3 ?_
        dsimp only [List.set]
        refine lp_dn (P := fun k => mw_G X 46 [some (.ref 40), some (.int (nI q)), some (.int (nI (k))), none] [] mw_Y0 (lpN (fun k J => mhourI tt (h + k) J) k (mw_up I 40 19 0)) (L) 0 0) 0 q ?_ ?_ 0 (Nat.le_refl _) (by omega)
        · show mw_G X 46 [some (.ref 40), some (.int (nI q)), some (.int (nI (q))), none] [] mw_Y0 (lpN (fun k J => mhourI tt (h + k) J) q (mw_up I 40 19 0)) (L) 0 0
          refine mw_iload_n hX dX2_run_46 rfl rfl ?_
          refine mw_iload_n hX dX2_run_47 rfl rfl ?_
          refine mw_icmp_ge hX (tgt := 85) dX2_run_48 (by decide) (fun h48 => ?_) (fun h48 => ?_)
          · refine mw_aload_n hX dX2_run_85 rfl rfl ?_
            refine mw_getI hX dX2_run_86 (mw_Yl (by decide)) mw_YM fl_X2_79 (by decide) (by decide) rfl ?_
            exact mw_ireturn hX hE dX2_run_89 (rfl) (by omega) (by omega)
          · exact absurd (nI_le (a := q) (b := q) (by omega) (by omega)) h48
        · intro k hsk hk ihk
          show mw_G X 46 [some (.ref 40), some (.int (nI q)), some (.int (nI (k))), none] [] mw_Y0 (lpN (fun k J => mhourI tt (h + k) J) k (mw_up I 40 19 0)) (L) 0 0
          refine mw_iload_n hX dX2_run_46 rfl rfl ?_
          refine mw_iload_n hX dX2_run_47 rfl rfl ?_
          refine mw_icmp_ge hX (tgt := 85) dX2_run_48 (by decide) (fun h48 => ?_) (fun h48 => ?_)
          · exact absurd h48 (nI_ge (a := k) (b := q) (by omega) (by omega))
          · refine mw_ic hX 0 dX2_run_51 rfl ?_
            refine mw_istore_n hX dX2_run_52 rfl (Nat.le_of_ble_eq_true rfl) ?_
            dsimp only [List.set]
            refine lp_dn (P := fun p => mw_G X 53 [some (.ref 40), some (.int (nI q)), some (.int (nI k)), some (.int (nI (p)))] [] mw_Y0 (lpN (fun p J => worksI J p (h + k) (tt p)) p (lpN (fun k J => mhourI tt (h + k) J) k (mw_up I 40 19 0))) (L) 0 0) 0 3 ?_ ?_ 0 (Nat.le_refl _) (by omega)
            · show mw_G X 53 [some (.ref 40), some (.int (nI q)), some (.int (nI k)), some (.int (nI (3)))] [] mw_Y0 (lpN (fun p J => worksI J p (h + k) (tt p)) 3 (lpN (fun k J => mhourI tt (h + k) J) k (mw_up I 40 19 0))) (L) 0 0
              refine mw_iload_n hX dX2_run_53 rfl rfl ?_
              refine mw_ic hX 3 dX2_run_54 rfl ?_
              refine mw_icmp_ge hX (tgt := 69) dX2_run_55 (by decide) (fun h55 => ?_) (fun h55 => ?_)
              · refine mw_aload_n hX dX2_run_69 rfl rfl ?_
                refine mw_dupR hX dX2_run_70 ?_
                refine mw_getI hX dX2_run_71 (mw_Yl (by decide)) mw_YM fl_X2_79 (by decide) (by decide) rfl ?_
                refine mw_ic hX 1 dX2_run_74 rfl ?_
                refine mw_iadd hX dX2_run_75 ?_
                refine mw_putI hX dX2_run_76 (mw_Yl (by decide)) mw_YM fl_X2_79 (by decide) (by decide) rfl ?_
                refine mw_inc hX (nI (k + 1)) dX2_run_79 rfl (mw_inc1 _) ?_
                dsimp only [List.set]
                refine mw_goto hX (tgt := 46) dX2_run_82 (by decide) ?_
                refine mw_drop 3 ?_
                dsimp only [List.set]
                exact ihk
              · exact absurd (nI_le (a := 3) (b := 3) (by omega) (by omega)) h55
            · intro p hsp hp ihp
              show mw_G X 53 [some (.ref 40), some (.int (nI q)), some (.int (nI k)), some (.int (nI (p)))] [] mw_Y0 (lpN (fun p J => worksI J p (h + k) (tt p)) p (lpN (fun k J => mhourI tt (h + k) J) k (mw_up I 40 19 0))) (L) 0 0
              refine mw_iload_n hX dX2_run_53 rfl rfl ?_
              refine mw_ic hX 3 dX2_run_54 rfl ?_
              refine mw_icmp_ge hX (tgt := 69) dX2_run_55 (by decide) (fun h55 => ?_) (fun h55 => ?_)
              · exact absurd h55 (nI_ge (a := p) (b := 3) (by omega) (by omega))
              · refine mw_aload_n hX dX2_run_58 rfl rfl ?_
                refine mw_iload_n hX dX2_run_59 rfl rfl ?_
                refine mw_cV hX [_] ws_X2_97 dX2_run_60 (c_m_works (mw_l X) p (by omega) (h + k) (by omega) (tt p) (ht p (by omega)).1 _ ((congrFun (mruns_f (by decide)) 10).trans (mhours_h hH0 k)) ((congrFun ((mruns_f (by decide)).trans (mhours_f (by decide) (by decide))) p).trans ((congrFun (mw_up_ne (I := I) (k := 40) (j := 19) (x := 0) (a := 43) (by decide)) p).trans (ht p (by omega)).2)) L) (mw_Yl (by decide)) mw_YM (by decide) rfl (by omega) (by omega) (by omega) (Nat.le_of_ble_eq_true rfl) ?_
                refine mw_inc hX (nI (p + 1)) dX2_run_63 rfl (mw_inc1 _) ?_
                dsimp only [List.set]
                refine mw_goto hX (tgt := 53) dX2_run_66 (by decide) ?_
                exact ihp
      · exact absurd (by rw [mw_t0]; decide) h39
    · exact absurd (nI_le (a := h + q) (b := 200) (by omega) (by decide)) h24
  · exact absurd h8 (by decide)
def grV (v : Int32) : Int32 := if 16 ≤ v / 4 * 4 then 16 else v / 4 * 4
def mayV (I : mw_I) (r v : Int32) : Int32 := if v < r then 0 else if I 46 0 ≤ r then 1 else if I 46 0 ≤ grV v then 0 else 1
theorem may_le {I : mw_I} {a b : Nat} (ha : a < 2 ^ 31) (hb : b < 2 ^ 31) (h : ¬ mayV I (nI a) (nI b) = 0) : a ≤ b := by
  by_cases hq : b < a
  · exact absurd (by rw [mayV, if_pos (nI_lt hq ha)]) h
  · omega
def comesV (I : mw_I) (it lv m cp : Nat) : Int32 := mixedV I 0 (nI it) * (I 42 0 + nI (lv / 5)) / 10 + I 58 (260 * m + (if cp ≤ lv - it then cp else lv - it))
def lmF (I : mw_I) (cp lv m : Nat) (j : Nat) (z : Int32) : Int32 := if mayV I (nI (4 * j)) (nI lv) = 0 then (if 0 ≤ z then z else 0) else (if comesV I (4 * j) lv m cp ≤ z then z else comesV I (4 * j) lv m cp)
def lmV (I : mw_I) (cp lv m : Nat) : Int32 := lpN (lmF I cp lv m) 5 0
def laRow (cp inf m : Nat) (J : mw_I) : mw_I := lpN (fun c J => mw_up J 58 (260 * (m + 1) + c) (lmV J cp (c + inf) m)) 201 J
def la0 (I : mw_I) : mw_I := lpN (fun k J => mw_up J 58 k 0) 260 I
def laysI (cp inf n : Nat) (I : mw_I) : mw_I := lpN (fun m J => laRow cp inf m J) n (la0 I)
theorem fr_la0 {I : mw_I} {a n : Nat} (h : a ≠ 58) : lpN (fun k J => mw_up J 58 k 0) n I a = I a := lpN_inv (P := fun (J : mw_I) => J a = I a) n (fun _ _ _ hz => (mw_up_ne h).trans hz) rfl
theorem fr_laR {I : mw_I} {cp inf m a n : Nat} (h : a ≠ 58) : lpN (fun c J => mw_up J 58 (260 * (m + 1) + c) (lmV J cp (c + inf) m)) n I a = I a := lpN_inv (P := fun (J : mw_I) => J a = I a) n (fun _ _ _ hz => (mw_up_ne h).trans hz) rfl
theorem fr_laN {I : mw_I} {cp inf a n : Nat} (h : a ≠ 58) : lpN (fun m J => laRow cp inf m J) n I a = I a := lpN_inv (P := fun (J : mw_I) => J a = I a) n (fun _ _ _ hz => (fr_laR h).trans hz) rfl
theorem fr_lays {I : mw_I} {cp inf n a : Nat} (h : a ≠ 58) : laysI cp inf n I a = I a := (fr_laN h).trans (fr_la0 h)
theorem mw_n10 : (10 : Int32) = nI 10 := rfl
set_option maxRecDepth 20000 in
theorem c_m_may (l : Launch) (r v : Int32) (I : mw_I) (L : mw_L) : mw_CT l yX2_may (.code yX2_may cX2_may 4 (some .boolean)) 1 0 0 [.ref 40, .int r, .int v] (mw_Y0, I, L) (.inl (some (.int (mayV I r v)), mw_Y0, I, L)) := by
  refine mw_enter RX2 rfl (by decide +kernel) (mw_cat rfl) (Nat.le_of_ble_eq_true rfl) (fun X hX hl hE hT hnm => ?_)
  subst hl
  show mw_G X 0 [some (.ref 40), some (.int r), some (.int v), none] [] mw_Y0 I L 0 0
  refine mw_iload_n hX dX2_may_0 rfl rfl ?_
  refine mw_ic hX 4 dX2_may_1 rfl ?_
  refine mw_idiv hX (by decide) dX2_may_2 ?_
  refine mw_ic hX 4 dX2_may_3 rfl ?_
  refine mw_imul hX dX2_may_4 ?_
  refine mw_bp hX 16 dX2_may_5 rfl ?_
  refine mw_icmp_ge hX (tgt := 18) dX2_may_7 (by decide) (fun h7 => ?_) (fun h7 => ?_)
  · refine mw_bp hX 16 dX2_may_18 rfl ?_
    refine mw_istore_n hX dX2_may_20 rfl (Nat.le_of_ble_eq_true rfl) ?_
    dsimp only [List.set]
    refine mw_iload_n hX dX2_may_21 rfl rfl ?_
    refine mw_iload_n hX dX2_may_22 rfl rfl ?_
    refine mw_icmp_gt hX (tgt := 50) dX2_may_23 (by decide) (fun h23 => ?_) (fun h23 => ?_)
    · refine mw_ic hX 0 dX2_may_50 rfl ?_
      exact mw_zreturn hX hE dX2_may_51 (by rw [mayV, if_pos h23]) (by first | exact Or.inl rfl | exact Or.inr rfl) (by omega) (by omega)
    · refine mw_iload_n hX dX2_may_26 rfl rfl ?_
      refine mw_aload_n hX dX2_may_27 rfl rfl ?_
      refine mw_getR hX (r := 46) dX2_may_28 (mw_Yl (by decide)) mw_YM fl_X2_25 (by decide) (by decide) rfl rfl ?_
      refine mw_ic hX 0 dX2_may_31 rfl ?_
      refine mw_iaload hX (j := 0) dX2_may_32 (mw_Yl (by decide)) rfl rfl (by decide) (by decide) ?_
      refine mw_icmp_ge hX (tgt := 46) dX2_may_33 (by decide) (fun h33 => ?_) (fun h33 => ?_)
      · refine mw_ic hX 1 dX2_may_46 rfl ?_
        refine mw_goto hX (tgt := 51) dX2_may_47 (by decide) ?_
        exact mw_zreturn hX hE dX2_may_51 (by rw [mayV, if_neg h23, if_pos h33]) (by first | exact Or.inl rfl | exact Or.inr rfl) (by omega) (by omega)
      · refine mw_iload_n hX dX2_may_36 rfl rfl ?_
        refine mw_aload_n hX dX2_may_37 rfl rfl ?_
        refine mw_getR hX (r := 46) dX2_may_38 (mw_Yl (by decide)) mw_YM fl_X2_25 (by decide) (by decide) rfl rfl ?_
        refine mw_ic hX 0 dX2_may_41 rfl ?_
        refine mw_iaload hX (j := 0) dX2_may_42 (mw_Yl (by decide)) rfl rfl (by decide) (by decide) ?_
        refine mw_icmp_ge hX (tgt := 50) dX2_may_43 (by decide) (fun h43 => ?_) (fun h43 => ?_)
        · refine mw_ic hX 0 dX2_may_50 rfl ?_
          exact mw_zreturn hX hE dX2_may_51 (by rw [mayV, if_neg h23, if_neg h33, grV, if_pos h7, if_pos h43]) (by first | exact Or.inl rfl | exact Or.inr rfl) (by omega) (by omega)
        · refine mw_ic hX 1 dX2_may_46 rfl ?_
          refine mw_goto hX (tgt := 51) dX2_may_47 (by decide) ?_
          exact mw_zreturn hX hE dX2_may_51 (by rw [mayV, if_neg h23, if_neg h33, grV, if_pos h7, if_neg h43]) (by first | exact Or.inl rfl | exact Or.inr rfl) (by omega) (by omega)
  · refine mw_iload_n hX dX2_may_10 rfl rfl ?_
    refine mw_ic hX 4 dX2_may_11 rfl ?_
    refine mw_idiv hX (by decide) dX2_may_12 ?_
    refine mw_ic hX 4 dX2_may_13 rfl ?_
    refine mw_imul hX dX2_may_14 ?_
    refine mw_goto hX (tgt := 20) dX2_may_15 (by decide) ?_
    refine mw_istore_n hX dX2_may_20 rfl (Nat.le_of_ble_eq_true rfl) ?_
    dsimp only [List.set]
    refine mw_iload_n hX dX2_may_21 rfl rfl ?_
    refine mw_iload_n hX dX2_may_22 rfl rfl ?_
    refine mw_icmp_gt hX (tgt := 50) dX2_may_23 (by decide) (fun h23 => ?_) (fun h23 => ?_)
    · refine mw_ic hX 0 dX2_may_50 rfl ?_
      exact mw_zreturn hX hE dX2_may_51 (by rw [mayV, if_pos h23]) (by first | exact Or.inl rfl | exact Or.inr rfl) (by omega) (by omega)
    · refine mw_iload_n hX dX2_may_26 rfl rfl ?_
      refine mw_aload_n hX dX2_may_27 rfl rfl ?_
      refine mw_getR hX (r := 46) dX2_may_28 (mw_Yl (by decide)) mw_YM fl_X2_25 (by decide) (by decide) rfl rfl ?_
      refine mw_ic hX 0 dX2_may_31 rfl ?_
      refine mw_iaload hX (j := 0) dX2_may_32 (mw_Yl (by decide)) rfl rfl (by decide) (by decide) ?_
      refine mw_icmp_ge hX (tgt := 46) dX2_may_33 (by decide) (fun h33 => ?_) (fun h33 => ?_)
      · refine mw_ic hX 1 dX2_may_46 rfl ?_
        refine mw_goto hX (tgt := 51) dX2_may_47 (by decide) ?_
        exact mw_zreturn hX hE dX2_may_51 (by rw [mayV, if_neg h23, if_pos h33]) (by first | exact Or.inl rfl | exact Or.inr rfl) (by omega) (by omega)
      · refine mw_iload_n hX dX2_may_36 rfl rfl ?_
        refine mw_aload_n hX dX2_may_37 rfl rfl ?_
        refine mw_getR hX (r := 46) dX2_may_38 (mw_Yl (by decide)) mw_YM fl_X2_25 (by decide) (by decide) rfl rfl ?_
        refine mw_ic hX 0 dX2_may_41 rfl ?_
        refine mw_iaload hX (j := 0) dX2_may_42 (mw_Yl (by decide)) rfl rfl (by decide) (by decide) ?_
        refine mw_icmp_ge hX (tgt := 50) dX2_may_43 (by decide) (fun h43 => ?_) (fun h43 => ?_)
        · refine mw_ic hX 0 dX2_may_50 rfl ?_
          exact mw_zreturn hX hE dX2_may_51 (by rw [mayV, if_neg h23, if_neg h33, grV, if_neg h7, if_pos h43]) (by first | exact Or.inl rfl | exact Or.inr rfl) (by omega) (by omega)
        · refine mw_ic hX 1 dX2_may_46 rfl ?_
          refine mw_goto hX (tgt := 51) dX2_may_47 (by decide) ?_
          exact mw_zreturn hX hE dX2_may_51 (by rw [mayV, if_neg h23, if_neg h33, grV, if_neg h7, if_neg h43]) (by first | exact Or.inl rfl | exact Or.inr rfl) (by omega) (by omega)
set_option maxRecDepth 20000 in
theorem c_m_comes (l : Launch) (it lv : Nat) (hle : it ≤ lv) (hlv : lv ≤ 300) (cp : Nat) (hcp : cp ≤ 200) (m : Nat) (hm : m < 6) (I : mw_I) (hC : I 41 0 = nI cp) (L : mw_L) : mw_CT l yX2_comes (.code yX2_comes cX2_comes 6 (some .int)) 2 0 0 [.ref 40, .int (nI it), .int (nI lv), .int (nI (m + 1))] (mw_Y0, I, L) (.inl (some (.int (comesV I it lv m cp)), mw_Y0, I, L)) := by
  refine mw_enter RX2 rfl (by decide +kernel) (mw_cat rfl) (Nat.le_of_ble_eq_true rfl) (fun X hX hl hE hT hnm => ?_)
  subst hl
  show mw_G X 0 [some (.ref 40), some (.int (nI it)), some (.int (nI lv)), some (.int (nI (m + 1))), none, none] [] mw_Y0 I L 0 0
  refine mw_iload_n hX dX2_comes_0 rfl rfl ?_
  refine mw_iload_n hX dX2_comes_1 rfl rfl ?_
  refine mw_isub hX dX2_comes_2 ?_
  refine mw_aload_n hX dX2_comes_3 rfl rfl ?_
  refine mw_getR hX (r := 41) dX2_comes_4 (mw_Yl (by decide)) mw_YM fl_X2_7 (by decide) (by decide) rfl rfl ?_
  refine mw_ic hX 0 dX2_comes_7 rfl ?_
  refine mw_iaload hX (j := 0) dX2_comes_8 (mw_Yl (by decide)) rfl rfl (by decide) (by decide) ?_
  rw [hC, pk_sub hle]
  refine mw_icmp_ge hX (tgt := 18) dX2_comes_9 (by decide) (fun h9 => ?_) (fun h9 => ?_)
  · have q9 : cp ≤ lv - it := (nI_leI (by omega) (by omega)).mp h9
    refine mw_aload_n hX dX2_comes_18 rfl rfl ?_
    refine mw_getR hX (r := 41) dX2_comes_19 (mw_Yl (by decide)) mw_YM fl_X2_7 (by decide) (by decide) rfl rfl ?_
    refine mw_ic hX 0 dX2_comes_22 rfl ?_
    refine mw_iaload hX (j := 0) dX2_comes_23 (mw_Yl (by decide)) rfl rfl (by decide) (by decide) ?_
    rw [hC]
    refine mw_istore hX dX2_comes_24 (Nat.le_of_ble_eq_true rfl) ?_
    dsimp only [List.set]
    refine mw_aload_n hX dX2_comes_26 rfl rfl ?_
    refine mw_ic hX 0 dX2_comes_27 rfl ?_
    refine mw_iload_n hX dX2_comes_28 rfl rfl ?_
    refine mw_cV hX [_, _] ws_X2_93 dX2_comes_29 (c_m_mixed (mw_l X) 0 (by decide) (nI it) I L) (mw_Yl (by decide)) mw_YM (by decide) rfl (by omega) (by omega) (by omega) (Nat.le_of_ble_eq_true rfl) ?_
    refine mw_aload_n hX dX2_comes_32 rfl rfl ?_
    refine mw_getR hX (r := 42) dX2_comes_33 (mw_Yl (by decide)) mw_YM fl_X2_13 (by decide) (by decide) rfl rfl ?_
    refine mw_ic hX 0 dX2_comes_36 rfl ?_
    refine mw_iaload hX (j := 0) dX2_comes_37 (mw_Yl (by decide)) rfl rfl (by decide) (by decide) ?_
    refine mw_iload_n hX dX2_comes_38 rfl rfl ?_
    refine mw_ic hX 5 dX2_comes_39 rfl ?_
    refine mw_idiv hX (by decide) dX2_comes_40 ?_
    rw [mw_n5, pk_div (by omega) (by omega) (by omega)]
    refine mw_iadd hX dX2_comes_41 ?_
    refine mw_imul hX dX2_comes_42 ?_
    refine mw_bp hX 10 dX2_comes_43 rfl ?_
    refine mw_idiv hX (by decide) dX2_comes_45 ?_
    refine mw_istore hX dX2_comes_46 (Nat.le_of_ble_eq_true rfl) ?_
    dsimp only [List.set]
    refine mw_iload hX dX2_comes_48 rfl ?_
    refine mw_aload_n hX dX2_comes_50 rfl rfl ?_
    refine mw_getR hX (r := 58) dX2_comes_51 (mw_Yl (by decide)) mw_YM fl_X2_61 (by decide) (by decide) rfl rfl ?_
    refine mw_sp hX 260 dX2_comes_54 rfl ?_
    refine mw_iload_n hX dX2_comes_57 rfl rfl ?_
    refine mw_ic hX 1 dX2_comes_58 rfl ?_
    refine mw_isub hX dX2_comes_59 ?_
    rw [nI_pred]
    refine mw_imul hX dX2_comes_60 ?_
    refine mw_iload hX dX2_comes_61 rfl ?_
    refine mw_iadd hX dX2_comes_63 ?_
    refine mw_iaload hX (j := 260 * m + (if cp ≤ lv - it then cp else lv - it)) dX2_comes_64 (mw_Yl (by decide)) rfl (by rw [if_pos q9, mw_n260, pk_mul, nI_add]) (by split <;> omega) (by decide) ?_
    refine mw_iadd hX dX2_comes_65 ?_
    exact mw_ireturn hX hE dX2_comes_66 (rfl) (by omega) (by omega)
  · have q9 : ¬ cp ≤ lv - it := fun q => h9 (nI_le q (by omega))
    refine mw_iload_n hX dX2_comes_12 rfl rfl ?_
    refine mw_iload_n hX dX2_comes_13 rfl rfl ?_
    refine mw_isub hX dX2_comes_14 ?_
    rw [pk_sub hle]
    refine mw_goto hX (tgt := 24) dX2_comes_15 (by decide) ?_
    refine mw_istore hX dX2_comes_24 (Nat.le_of_ble_eq_true rfl) ?_
    dsimp only [List.set]
    refine mw_aload_n hX dX2_comes_26 rfl rfl ?_
    refine mw_ic hX 0 dX2_comes_27 rfl ?_
    refine mw_iload_n hX dX2_comes_28 rfl rfl ?_
    refine mw_cV hX [_, _] ws_X2_93 dX2_comes_29 (c_m_mixed (mw_l X) 0 (by decide) (nI it) I L) (mw_Yl (by decide)) mw_YM (by decide) rfl (by omega) (by omega) (by omega) (Nat.le_of_ble_eq_true rfl) ?_
    refine mw_aload_n hX dX2_comes_32 rfl rfl ?_
    refine mw_getR hX (r := 42) dX2_comes_33 (mw_Yl (by decide)) mw_YM fl_X2_13 (by decide) (by decide) rfl rfl ?_
    refine mw_ic hX 0 dX2_comes_36 rfl ?_
    refine mw_iaload hX (j := 0) dX2_comes_37 (mw_Yl (by decide)) rfl rfl (by decide) (by decide) ?_
    refine mw_iload_n hX dX2_comes_38 rfl rfl ?_
    refine mw_ic hX 5 dX2_comes_39 rfl ?_
    refine mw_idiv hX (by decide) dX2_comes_40 ?_
    rw [mw_n5, pk_div (by omega) (by omega) (by omega)]
    refine mw_iadd hX dX2_comes_41 ?_
    refine mw_imul hX dX2_comes_42 ?_
    refine mw_bp hX 10 dX2_comes_43 rfl ?_
    refine mw_idiv hX (by decide) dX2_comes_45 ?_
    refine mw_istore hX dX2_comes_46 (Nat.le_of_ble_eq_true rfl) ?_
    dsimp only [List.set]
    refine mw_iload hX dX2_comes_48 rfl ?_
    refine mw_aload_n hX dX2_comes_50 rfl rfl ?_
    refine mw_getR hX (r := 58) dX2_comes_51 (mw_Yl (by decide)) mw_YM fl_X2_61 (by decide) (by decide) rfl rfl ?_
    refine mw_sp hX 260 dX2_comes_54 rfl ?_
    refine mw_iload_n hX dX2_comes_57 rfl rfl ?_
    refine mw_ic hX 1 dX2_comes_58 rfl ?_
    refine mw_isub hX dX2_comes_59 ?_
    rw [nI_pred]
    refine mw_imul hX dX2_comes_60 ?_
    refine mw_iload hX dX2_comes_61 rfl ?_
    refine mw_iadd hX dX2_comes_63 ?_
    refine mw_iaload hX (j := 260 * m + (if cp ≤ lv - it then cp else lv - it)) dX2_comes_64 (mw_Yl (by decide)) rfl (by rw [if_neg q9, mw_n260, pk_mul, nI_add]) (by split <;> omega) (by decide) ?_
    refine mw_iadd hX dX2_comes_65 ?_
    exact mw_ireturn hX hE dX2_comes_66 (rfl) (by omega) (by omega)
set_option maxRecDepth 20000 in
theorem c_m_lays (l : Launch) (cp : Nat) (hcp : cp ≤ 200) (inf : Nat) (hinf : inf ≤ 50) (n : Nat) (hn : n ≤ 6) (I : mw_I) (hC : I 41 0 = nI cp) (hF : I 44 0 = nI inf) (L : mw_L) : mw_CT l yX2_lays (.code yX2_lays cX2_lays 7 none) 3 0 0 [.ref 40, .int (nI n)] (mw_Y0, I, L) (.inl (none, mw_Y0, laysI cp inf n I, L)) := by
  refine mw_enter RX2 rfl (by decide +kernel) (mw_cat rfl) (Nat.le_of_ble_eq_true rfl) (fun X hX hl hE hT hnm => ?_)
  subst hl
  show mw_G X 0 [some (.ref 40), some (.int (nI n)), none, none, none, none, none] [] mw_Y0 I L 0 0
  refine mw_ic hX 0 dX2_lays_0 rfl ?_
  refine mw_istore_n hX dX2_lays_1 rfl (Nat.le_of_ble_eq_true rfl) ?_
  dsimp only [List.set]
  refine lp_dn (P := fun k => mw_G X 2 [some (.ref 40), some (.int (nI n)), some (.int (nI (k))), none, none, none, none] [] mw_Y0 (lpN (fun k J => mw_up J 58 k 0) k I) (L) 0 0) 0 260 ?_ ?_ 0 (Nat.le_refl _) (by omega)
  · show mw_G X 2 [some (.ref 40), some (.int (nI n)), some (.int (nI (260))), none, none, none, none] [] mw_Y0 (lpN (fun k J => mw_up J 58 k 0) 260 I) (L) 0 0
    refine mw_iload_n hX dX2_lays_2 rfl rfl ?_
    refine mw_sp hX 260 dX2_lays_3 rfl ?_
    refine mw_icmp_ge hX (tgt := 22) dX2_lays_6 (by decide) (fun h6 => ?_) (fun h6 => ?_)
    · refine mw_ic hX 1 dX2_lays_22 rfl ?_
      refine mw_istore_n hX dX2_lays_23 rfl (Nat.le_of_ble_eq_true rfl) ?_
      dsimp only [List.set]
      refine mw_drop 3 ?_
      dsimp only [List.set]
      refine mw_drop 4 ?_
      dsimp only [List.set]
      refine mw_drop 5 ?_
      dsimp only [List.set]
      refine mw_drop 6 ?_
      dsimp only [List.set]
      refine lp_dn (P := fun m => mw_G X 24 [some (.ref 40), some (.int (nI n)), some (.int (nI (m + 1))), none, none, none, none] [] mw_Y0 (lpN (fun m J => laRow cp inf m J) m (la0 I)) (L) 0 0) 0 n ?_ ?_ 0 (Nat.le_refl _) (by omega)
      · show mw_G X 24 [some (.ref 40), some (.int (nI n)), some (.int (nI (n + 1))), none, none, none, none] [] mw_Y0 (lpN (fun m J => laRow cp inf m J) n (la0 I)) (L) 0 0
        refine mw_iload_n hX dX2_lays_24 rfl rfl ?_
        refine mw_iload_n hX dX2_lays_25 rfl rfl ?_
        refine mw_icmp_gt hX (tgt := 137) dX2_lays_26 (by decide) (fun h26 => ?_) (fun h26 => ?_)
        · exact mw_return hX hE dX2_lays_137 (rfl) (by omega) (by omega)
        · exact absurd (nI_lt (a := n) (b := n + 1) (by omega) (by omega)) h26
      · intro m hsm hm ihm
        show mw_G X 24 [some (.ref 40), some (.int (nI n)), some (.int (nI (m + 1))), none, none, none, none] [] mw_Y0 (lpN (fun m J => laRow cp inf m J) m (la0 I)) (L) 0 0
        refine mw_iload_n hX dX2_lays_24 rfl rfl ?_
        refine mw_iload_n hX dX2_lays_25 rfl rfl ?_
        refine mw_icmp_gt hX (tgt := 137) dX2_lays_26 (by decide) (fun h26 => ?_) (fun h26 => ?_)
        · exact absurd h26 (nI_nlt (a := n) (b := m + 1) (by omega) (by omega))
        · refine mw_ic hX 0 dX2_lays_29 rfl ?_
          refine mw_istore_n hX dX2_lays_30 rfl (Nat.le_of_ble_eq_true rfl) ?_
          dsimp only [List.set]
          refine mw_drop 4 ?_
          dsimp only [List.set]
          refine mw_drop 5 ?_
          dsimp only [List.set]
          refine mw_drop 6 ?_
          dsimp only [List.set]
          refine lp_dn (P := fun c => mw_G X 31 [some (.ref 40), some (.int (nI n)), some (.int (nI (m + 1))), some (.int (nI (c))), none, none, none] [] mw_Y0 (lpN (fun c J => mw_up J 58 (260 * (m + 1) + c) (lmV J cp (c + inf) m)) c (lpN (fun m J => laRow cp inf m J) m (la0 I))) (L) 0 0) 0 201 ?_ ?_ 0 (Nat.le_refl _) (by omega)
          · show mw_G X 31 [some (.ref 40), some (.int (nI n)), some (.int (nI (m + 1))), some (.int (nI (201))), none, none, none] [] mw_Y0 (lpN (fun c J => mw_up J 58 (260 * (m + 1) + c) (lmV J cp (c + inf) m)) 201 (lpN (fun m J => laRow cp inf m J) m (la0 I))) (L) 0 0
            refine mw_iload_n hX dX2_lays_31 rfl rfl ?_
            refine mw_sp hX 200 dX2_lays_32 rfl ?_
            refine mw_icmp_gt hX (tgt := 131) dX2_lays_35 (by decide) (fun h35 => ?_) (fun h35 => ?_)
            · refine mw_inc hX (nI (m + 1 + 1)) dX2_lays_131 rfl (mw_inc1 _) ?_
              dsimp only [List.set]
              refine mw_goto hX (tgt := 24) dX2_lays_134 (by decide) ?_
              refine mw_drop 3 ?_
              dsimp only [List.set]
              refine mw_drop 4 ?_
              dsimp only [List.set]
              refine mw_drop 5 ?_
              dsimp only [List.set]
              refine mw_drop 6 ?_
              dsimp only [List.set]
              exact ihm
            · exact absurd (nI_lt (a := 200) (b := 201) (by omega) (by omega)) h35
          · intro c hsc hc ihc
            show mw_G X 31 [some (.ref 40), some (.int (nI n)), some (.int (nI (m + 1))), some (.int (nI (c))), none, none, none] [] mw_Y0 (lpN (fun c J => mw_up J 58 (260 * (m + 1) + c) (lmV J cp (c + inf) m)) c (lpN (fun m J => laRow cp inf m J) m (la0 I))) (L) 0 0
            refine mw_iload_n hX dX2_lays_31 rfl rfl ?_
            refine mw_sp hX 200 dX2_lays_32 rfl ?_
            refine mw_icmp_gt hX (tgt := 131) dX2_lays_35 (by decide) (fun h35 => ?_) (fun h35 => ?_)
            · exact absurd h35 (nI_nlt (a := 200) (b := c) (by omega) (by omega))
            · refine mw_ic hX 0 dX2_lays_38 rfl ?_
              refine mw_istore hX dX2_lays_39 (Nat.le_of_ble_eq_true rfl) ?_
              dsimp only [List.set]
              refine mw_ic hX 0 dX2_lays_41 rfl ?_
              refine mw_istore hX dX2_lays_42 (Nat.le_of_ble_eq_true rfl) ?_
              dsimp only [List.set]
              refine mw_drop 6 ?_
              dsimp only [List.set]
              refine lp_dn (P := fun j => mw_G X 44 [some (.ref 40), some (.int (nI n)), some (.int (nI (m + 1))), some (.int (nI c)), some (.int (lpN (lmF (lpN (fun c J => mw_up J 58 (260 * (m + 1) + c) (lmV J cp (c + inf) m)) c (lpN (fun m J => laRow cp inf m J) m (la0 I))) cp (c + inf) m) j 0)), some (.int (nI (4 * j))), none] [] mw_Y0 (lpN (fun c J => mw_up J 58 (260 * (m + 1) + c) (lmV J cp (c + inf) m)) c (lpN (fun m J => laRow cp inf m J) m (la0 I))) (L) 0 0) 0 5 ?_ ?_ 0 (Nat.le_refl _) (by omega)
              · show mw_G X 44 [some (.ref 40), some (.int (nI n)), some (.int (nI (m + 1))), some (.int (nI c)), some (.int (lpN (lmF (lpN (fun c J => mw_up J 58 (260 * (m + 1) + c) (lmV J cp (c + inf) m)) c (lpN (fun m J => laRow cp inf m J) m (la0 I))) cp (c + inf) m) 5 0)), some (.int (nI (4 * 5))), none] [] mw_Y0 (lpN (fun c J => mw_up J 58 (260 * (m + 1) + c) (lmV J cp (c + inf) m)) c (lpN (fun m J => laRow cp inf m J) m (la0 I))) (L) 0 0
                refine mw_iload hX dX2_lays_44 rfl ?_
                refine mw_bp hX 16 dX2_lays_46 rfl ?_
                refine mw_icmp_gt hX (tgt := 111) dX2_lays_48 (by decide) (fun h48 => ?_) (fun h48 => ?_)
                · refine mw_aload_n hX dX2_lays_111 rfl rfl ?_
                  refine mw_getR hX (r := 58) dX2_lays_112 (mw_Yl (by decide)) mw_YM fl_X2_61 (by decide) (by decide) rfl rfl ?_
                  refine mw_sp hX 260 dX2_lays_115 rfl ?_
                  refine mw_iload_n hX dX2_lays_118 rfl rfl ?_
                  refine mw_imul hX dX2_lays_119 ?_
                  refine mw_iload_n hX dX2_lays_120 rfl rfl ?_
                  refine mw_iadd hX dX2_lays_121 ?_
                  refine mw_iload hX dX2_lays_122 rfl ?_
                  refine mw_iastore hX (j := 260 * (m + 1) + c) dX2_lays_124 (mw_Yl (by decide)) rfl (by rw [mw_n260, pk_mul, nI_add]) (by omega) (by decide) ?_
                  refine mw_inc hX (nI (c + 1)) dX2_lays_125 rfl (mw_inc1 _) ?_
                  dsimp only [List.set]
                  refine mw_goto hX (tgt := 31) dX2_lays_128 (by decide) ?_
                  refine mw_drop 4 ?_
                  dsimp only [List.set]
                  refine mw_drop 5 ?_
                  dsimp only [List.set]
                  refine mw_drop 6 ?_
                  dsimp only [List.set]
                  exact ihc
                · exact absurd (nI_lt (a := 16) (b := 4 * 5) (by omega) (by omega)) h48
              · intro j hsj hj ihj
                show mw_G X 44 [some (.ref 40), some (.int (nI n)), some (.int (nI (m + 1))), some (.int (nI c)), some (.int (lpN (lmF (lpN (fun c J => mw_up J 58 (260 * (m + 1) + c) (lmV J cp (c + inf) m)) c (lpN (fun m J => laRow cp inf m J) m (la0 I))) cp (c + inf) m) j 0)), some (.int (nI (4 * j))), none] [] mw_Y0 (lpN (fun c J => mw_up J 58 (260 * (m + 1) + c) (lmV J cp (c + inf) m)) c (lpN (fun m J => laRow cp inf m J) m (la0 I))) (L) 0 0
                refine mw_iload hX dX2_lays_44 rfl ?_
                refine mw_bp hX 16 dX2_lays_46 rfl ?_
                refine mw_icmp_gt hX (tgt := 111) dX2_lays_48 (by decide) (fun h48 => ?_) (fun h48 => ?_)
                · exact absurd h48 (nI_nlt (a := 16) (b := 4 * j) (by omega) (by omega))
                · refine mw_aload_n hX dX2_lays_51 rfl rfl ?_
                  refine mw_iload hX dX2_lays_52 rfl ?_
                  refine mw_iload_n hX dX2_lays_54 rfl rfl ?_
                  refine mw_aload_n hX dX2_lays_55 rfl rfl ?_
                  refine mw_getR hX (r := 44) dX2_lays_56 (mw_Yl (by decide)) mw_YM fl_X2_19 (by decide) (by decide) rfl rfl ?_
                  refine mw_ic hX 0 dX2_lays_59 rfl ?_
                  refine mw_iaload hX (j := 0) dX2_lays_60 (mw_Yl (by decide)) rfl rfl (by decide) (by decide) ?_
                  rw [show (lpN (fun c J => mw_up J 58 (260 * (m + 1) + c) (lmV J cp (c + inf) m)) c (lpN (fun m J => laRow cp inf m J) m (la0 I))) 44 0 = nI inf from (congrFun ((fr_laR (by decide)).trans ((fr_laN (by decide)).trans (fr_la0 (by decide)))) 0).trans hF]
                  refine mw_iadd hX dX2_lays_61 ?_
                  rw [nI_add]
                  refine mw_cV hX [_, _] ws_X2_107 dX2_lays_62 (c_m_may (mw_l X) (nI (4 * j)) (nI (c + inf)) _ L) (mw_Yl (by decide)) mw_YM (by decide) rfl (by omega) (by omega) (by omega) (Nat.le_of_ble_eq_true rfl) ?_
                  refine mw_if_eq hX (tgt := 86) dX2_lays_65 (by decide) (fun h65 => ?_) (fun h65 => ?_)
                  · refine mw_ic hX 0 dX2_lays_86 rfl ?_
                    refine mw_istore hX dX2_lays_87 (Nat.le_of_ble_eq_true rfl) ?_
                    dsimp only [List.set]
                    refine mw_iload hX dX2_lays_89 rfl ?_
                    refine mw_iload hX dX2_lays_91 rfl ?_
                    refine mw_icmp_le hX (tgt := 101) dX2_lays_93 (by decide) (fun h93 => ?_) (fun h93 => ?_)
                    · refine mw_iload hX dX2_lays_101 rfl ?_
                      refine mw_istore hX dX2_lays_103 (Nat.le_of_ble_eq_true rfl) ?_
                      dsimp only [List.set]
                      refine mw_inc hX (nI (4 * (j + 1))) dX2_lays_105 rfl (mw_4' _) ?_
                      dsimp only [List.set]
                      refine mw_goto hX (tgt := 44) dX2_lays_108 (by decide) ?_
                      refine mw_drop 6 ?_
                      dsimp only [List.set]
                      rw [lpN_succ, lmF, if_pos h65, if_pos h93] at ihj
                      exact ihj
                    · refine mw_iload hX dX2_lays_96 rfl ?_
                      refine mw_goto hX (tgt := 103) dX2_lays_98 (by decide) ?_
                      refine mw_istore hX dX2_lays_103 (Nat.le_of_ble_eq_true rfl) ?_
                      dsimp only [List.set]
                      refine mw_inc hX (nI (4 * (j + 1))) dX2_lays_105 rfl (mw_4' _) ?_
                      dsimp only [List.set]
                      refine mw_goto hX (tgt := 44) dX2_lays_108 (by decide) ?_
                      refine mw_drop 6 ?_
                      dsimp only [List.set]
                      rw [lpN_succ, lmF, if_pos h65, if_neg h93] at ihj
                      exact ihj
                  · refine mw_aload_n hX dX2_lays_68 rfl rfl ?_
                    refine mw_iload hX dX2_lays_69 rfl ?_
                    refine mw_iload_n hX dX2_lays_71 rfl rfl ?_
                    refine mw_aload_n hX dX2_lays_72 rfl rfl ?_
                    refine mw_getR hX (r := 44) dX2_lays_73 (mw_Yl (by decide)) mw_YM fl_X2_19 (by decide) (by decide) rfl rfl ?_
                    refine mw_ic hX 0 dX2_lays_76 rfl ?_
                    refine mw_iaload hX (j := 0) dX2_lays_77 (mw_Yl (by decide)) rfl rfl (by decide) (by decide) ?_
                    rw [show (lpN (fun c J => mw_up J 58 (260 * (m + 1) + c) (lmV J cp (c + inf) m)) c (lpN (fun m J => laRow cp inf m J) m (la0 I))) 44 0 = nI inf from (congrFun ((fr_laR (by decide)).trans ((fr_laN (by decide)).trans (fr_la0 (by decide)))) 0).trans hF]
                    refine mw_iadd hX dX2_lays_78 ?_
                    rw [nI_add]
                    refine mw_iload_n hX dX2_lays_79 rfl rfl ?_
                    refine mw_cV hX [_, _, _] ws_X2_111 dX2_lays_80 (c_m_comes (mw_l X) (4 * j) (c + inf) (may_le (by omega) (by omega) h65) (by omega) cp hcp m (by omega) (lpN (fun c J => mw_up J 58 (260 * (m + 1) + c) (lmV J cp (c + inf) m)) c (lpN (fun m J => laRow cp inf m J) m (la0 I))) ((congrFun ((fr_laR (by decide)).trans ((fr_laN (by decide)).trans (fr_la0 (by decide)))) 0).trans hC) L) (mw_Yl (by decide)) mw_YM (by decide) rfl (by omega) (by omega) (by omega) (Nat.le_of_ble_eq_true rfl) ?_
                    refine mw_goto hX (tgt := 87) dX2_lays_83 (by decide) ?_
                    refine mw_istore hX dX2_lays_87 (Nat.le_of_ble_eq_true rfl) ?_
                    dsimp only [List.set]
                    refine mw_iload hX dX2_lays_89 rfl ?_
                    refine mw_iload hX dX2_lays_91 rfl ?_
                    refine mw_icmp_le hX (tgt := 101) dX2_lays_93 (by decide) (fun h93 => ?_) (fun h93 => ?_)
                    · refine mw_iload hX dX2_lays_101 rfl ?_
                      refine mw_istore hX dX2_lays_103 (Nat.le_of_ble_eq_true rfl) ?_
                      dsimp only [List.set]
                      refine mw_inc hX (nI (4 * (j + 1))) dX2_lays_105 rfl (mw_4' _) ?_
                      dsimp only [List.set]
                      refine mw_goto hX (tgt := 44) dX2_lays_108 (by decide) ?_
                      refine mw_drop 6 ?_
                      dsimp only [List.set]
                      rw [lpN_succ, lmF, if_neg h65, if_pos h93] at ihj
                      exact ihj
                    · refine mw_iload hX dX2_lays_96 rfl ?_
                      refine mw_goto hX (tgt := 103) dX2_lays_98 (by decide) ?_
                      refine mw_istore hX dX2_lays_103 (Nat.le_of_ble_eq_true rfl) ?_
                      dsimp only [List.set]
                      refine mw_inc hX (nI (4 * (j + 1))) dX2_lays_105 rfl (mw_4' _) ?_
                      dsimp only [List.set]
                      refine mw_goto hX (tgt := 44) dX2_lays_108 (by decide) ?_
                      refine mw_drop 6 ?_
                      dsimp only [List.set]
                      rw [lpN_succ, lmF, if_neg h65, if_neg h93] at ihj
                      exact ihj
    · exact absurd (nI_le (a := 260) (b := 260) (by omega) (by omega)) h6
  · intro k hsk hk ihk
    show mw_G X 2 [some (.ref 40), some (.int (nI n)), some (.int (nI (k))), none, none, none, none] [] mw_Y0 (lpN (fun k J => mw_up J 58 k 0) k I) (L) 0 0
    refine mw_iload_n hX dX2_lays_2 rfl rfl ?_
    refine mw_sp hX 260 dX2_lays_3 rfl ?_
    refine mw_icmp_ge hX (tgt := 22) dX2_lays_6 (by decide) (fun h6 => ?_) (fun h6 => ?_)
    · exact absurd h6 (nI_ge (a := k) (b := 260) (by omega) (by omega))
    · refine mw_aload_n hX dX2_lays_9 rfl rfl ?_
      refine mw_getR hX (r := 58) dX2_lays_10 (mw_Yl (by decide)) mw_YM fl_X2_61 (by decide) (by decide) rfl rfl ?_
      refine mw_iload_n hX dX2_lays_13 rfl rfl ?_
      refine mw_ic hX 0 dX2_lays_14 rfl ?_
      refine mw_iastore hX (j := k) dX2_lays_15 (mw_Yl (by decide)) rfl rfl (by omega) (by decide) ?_
      refine mw_inc hX (nI (k + 1)) dX2_lays_16 rfl (mw_inc1 _) ?_
      dsimp only [List.set]
      refine mw_goto hX (tgt := 2) dX2_lays_19 (by decide) ?_
      exact ihk
def greI (cp inf m : Nat) (I : mw_I) : mw_I := laysI cp inf (m + 1) (mw_up I 40 19 0)
theorem fr_gre {I : mw_I} {cp inf m a : Nat} (h1 : a ≠ 58) (h2 : a ≠ 40) : greI cp inf m I a = I a := (fr_lays h1).trans (mw_up_ne h2)
theorem fil_gre {I : mw_I} {cp inf m p : Nat} : filledV (greI cp inf m I) p = filledV I p := by
  unfold filledV
  rw [fr_gre (by decide) (by decide)]
def fndF (I : mw_I) (cp lv m : Nat) (mx : Int32) (j : Nat) (z : Int32) : Int32 := if mayV I (nI (4 * j)) (nI lv) = 0 then z else if comesV I (4 * j) lv m cp = mx then nI (4 * j) else z
def fndV (I : mw_I) (cp lv m : Nat) (mx : Int32) : Nat → Int32 → Int32
  | 0, z => z
  | n + 1, z => fndV I cp lv m mx n (fndF I cp lv m mx n z)
set_option maxRecDepth 20000 in
theorem c_m_greatest (l : Launch) (cp : Nat) (hcp : cp ≤ 200) (inf : Nat) (hinf : inf ≤ 50) (w : Nat) (hw : w ≤ 200) (m : Nat) (hm : m < 6) (I : mw_I) (hC : I 41 0 = nI cp) (hF : I 44 0 = nI inf) (hW : filledV I 0 = nI w) (L : mw_L) : mw_CT l yX2_greatest (.code yX2_greatest cX2_greatest 2 (some .int)) 4 0 0 [.ref 40, .int (nI (m + 1))] (mw_Y0, I, L) (.inl (some (.int (greI cp inf m I 58 (260 * (m + 1) + w))), mw_Y0, greI cp inf m I, L)) := by
  refine mw_enter RX2 rfl (by decide +kernel) (mw_cat rfl) (Nat.le_of_ble_eq_true rfl) (fun X hX hl hE hT hnm => ?_)
  subst hl
  show mw_G X 0 [some (.ref 40), some (.int (nI (m + 1)))] [] mw_Y0 I L 0 0
  refine mw_aload_n hX dX2_greatest_0 rfl rfl ?_
  refine mw_iload_n hX dX2_greatest_1 rfl rfl ?_
  refine mw_ic hX 1 dX2_greatest_2 rfl ?_
  refine mw_bp hX 6 dX2_greatest_3 rfl ?_
  refine mw_cS hX [_, _, _] ws_X2_68 dX2_greatest_5 (c_isIn (mw_l X) (nI (m + 1)) 1 6 ⟨nI_nlt (a := m + 1) (b := 1) (by omega) (by omega), nI_le (a := m + 1) (b := 6) (by omega) (by decide)⟩ mw_Y0 I L) rfl (by omega) (by omega) (by omega) (Nat.le_of_ble_eq_true rfl) ?_
  refine mw_if_eq hX (tgt := 15) dX2_greatest_8 (by decide) (fun h8 => ?_) (fun h8 => ?_)
  · exact absurd h8 (by decide)
  · refine mw_ic hX 0 dX2_greatest_11 rfl ?_
    refine mw_goto hX (tgt := 16) dX2_greatest_12 (by decide) ?_
    refine mw_putI hX dX2_greatest_16 (mw_Yl (by decide)) mw_YM fl_X2_64 (by decide) (by decide) rfl ?_
    refine mw_aload_n hX dX2_greatest_19 rfl rfl ?_
    refine mw_getI hX dX2_greatest_20 (mw_Yl (by decide)) mw_YM fl_X2_64 (by decide) (by decide) rfl ?_
    refine mw_if_le hX (tgt := 28) dX2_greatest_23 (by decide) (fun h23 => ?_) (fun h23 => ?_)
    · refine mw_aload_n hX dX2_greatest_28 rfl rfl ?_
      refine mw_iload_n hX dX2_greatest_29 rfl rfl ?_
      refine mw_cV hX [_] ws_X2_115 dX2_greatest_30 (c_m_lays (mw_l X) cp hcp inf hinf (m + 1) (by omega) _ ((congrFun (mw_up_ne (I := I) (k := 40) (j := 19) (x := 0) (a := 41) (by decide)) 0).trans hC) ((congrFun (mw_up_ne (I := I) (k := 40) (j := 19) (x := 0) (a := 44) (by decide)) 0).trans hF) L) (mw_Yl (by decide)) mw_YM (by decide) rfl (by omega) (by omega) (by omega) (Nat.le_of_ble_eq_true rfl) ?_
      refine mw_aload_n hX dX2_greatest_33 rfl rfl ?_
      refine mw_getR hX (r := 58) dX2_greatest_34 (mw_Yl (by decide)) mw_YM fl_X2_61 (by decide) (by decide) rfl rfl ?_
      refine mw_sp hX 260 dX2_greatest_37 rfl ?_
      refine mw_iload_n hX dX2_greatest_40 rfl rfl ?_
      refine mw_imul hX dX2_greatest_41 ?_
      refine mw_aload_n hX dX2_greatest_42 rfl rfl ?_
      refine mw_ic hX 0 dX2_greatest_43 rfl ?_
      refine mw_cV hX [_] ws_X2_82 dX2_greatest_44 (c_m_filled (mw_l X) 0 (by decide) _ L) (mw_Yl (by decide)) mw_YM (by decide) rfl (by omega) (by omega) (by omega) (Nat.le_of_ble_eq_true rfl) ?_
      rw [show filledV (laysI cp inf (m + 1) (mw_up I 40 19 0)) 0 = nI w from fil_gre.trans hW]
      refine mw_iadd hX dX2_greatest_47 ?_
      refine mw_iaload hX (j := 260 * (m + 1) + w) dX2_greatest_48 (mw_Yl (by decide)) rfl (by rw [mw_n260, pk_mul, nI_add]) (by omega) (by decide) ?_
      exact mw_ireturn hX hE dX2_greatest_49 (rfl) (by omega) (by omega)
    · exact absurd (by rw [mw_t0]; decide) h23
set_option maxRecDepth 20000 in
theorem c_m_greatestX (l : Launch) (q : Int32) (h : ¬ okR q 1 6) (I : mw_I) (L : mw_L) : mw_CT l yX2_greatest (.code yX2_greatest cX2_greatest 2 (some .int)) 4 0 0 [.ref 40, .int q] (mw_Y0, I, L) (.inl (some (.int 0), mw_Y0, mw_up I 40 19 1, L)) := by
  refine mw_enter RX2 rfl (by decide +kernel) (mw_cat rfl) (Nat.le_of_ble_eq_true rfl) (fun X hX hl hE hT hnm => ?_)
  subst hl
  show mw_G X 0 [some (.ref 40), some (.int q)] [] mw_Y0 I L 0 0
  refine mw_aload_n hX dX2_greatest_0 rfl rfl ?_
  refine mw_iload_n hX dX2_greatest_1 rfl rfl ?_
  refine mw_ic hX 1 dX2_greatest_2 rfl ?_
  refine mw_bp hX 6 dX2_greatest_3 rfl ?_
  refine mw_cS hX [_, _, _] ws_X2_68 dX2_greatest_5 (c_isInX (mw_l X) q 1 6 h mw_Y0 I L) rfl (by omega) (by omega) (by omega) (Nat.le_of_ble_eq_true rfl) ?_
  refine mw_if_eq hX (tgt := 15) dX2_greatest_8 (by decide) (fun h8 => ?_) (fun h8 => ?_)
  · refine mw_ic hX 1 dX2_greatest_15 rfl ?_
    refine mw_putI hX dX2_greatest_16 (mw_Yl (by decide)) mw_YM fl_X2_64 (by decide) (by decide) rfl ?_
    refine mw_aload_n hX dX2_greatest_19 rfl rfl ?_
    refine mw_getI hX dX2_greatest_20 (mw_Yl (by decide)) mw_YM fl_X2_64 (by decide) (by decide) rfl ?_
    refine mw_if_le hX (tgt := 28) dX2_greatest_23 (by decide) (fun h23 => ?_) (fun h23 => ?_)
    · exact absurd h23 (by rw [mw_up_at]; decide)
    · refine mw_ic hX 0 dX2_greatest_26 rfl ?_
      exact mw_ireturn hX hE dX2_greatest_27 (rfl) (by omega) (by omega)
  · exact absurd h8 (fun q => q rfl)
set_option maxRecDepth 20000 in
theorem c_m_bestEnergy (l : Launch) (cp : Nat) (hcp : cp ≤ 200) (inf : Nat) (hinf : inf ≤ 50) (w : Nat) (hw : w ≤ 200) (m : Nat) (hm : m < 6) (I : mw_I) (hC : I 41 0 = nI cp) (hF : I 44 0 = nI inf) (hW : filledV I 0 = nI w) (L : mw_L) : mw_CT l yX2_bestEnergy (.code yX2_bestEnergy cX2_bestEnergy 2 (some .int)) 5 0 0 [.ref 40, .int (nI (m + 1))] (mw_Y0, I, L) (.inl (some (.int (greI cp inf m I 58 (260 * (m + 1) + w))), mw_Y0, greI cp inf m I, L)) := by
  refine mw_enter RX2 rfl (by decide +kernel) (mw_cat rfl) (Nat.le_of_ble_eq_true rfl) (fun X hX hl hE hT hnm => ?_)
  subst hl
  show mw_G X 0 [some (.ref 40), some (.int (nI (m + 1)))] [] mw_Y0 I L 0 0
  refine mw_aload_n hX dX2_bestEnergy_0 rfl rfl ?_
  refine mw_iload_n hX dX2_bestEnergy_1 rfl rfl ?_
  refine mw_cV hX [_] ws_X2_118 dX2_bestEnergy_2 (c_m_greatest (mw_l X) cp hcp inf hinf w hw m hm I hC hF hW L) (mw_Yl (by decide)) mw_YM (by decide) rfl (by omega) (by omega) (by omega) (Nat.le_of_ble_eq_true rfl) ?_
  exact mw_ireturn hX hE dX2_bestEnergy_5 (rfl) (by omega) (by omega)
set_option maxRecDepth 20000 in
theorem c_m_bestEnergyX (l : Launch) (q : Int32) (h : ¬ okR q 1 6) (I : mw_I) (L : mw_L) : mw_CT l yX2_bestEnergy (.code yX2_bestEnergy cX2_bestEnergy 2 (some .int)) 5 0 0 [.ref 40, .int q] (mw_Y0, I, L) (.inl (some (.int 0), mw_Y0, mw_up I 40 19 1, L)) := by
  refine mw_enter RX2 rfl (by decide +kernel) (mw_cat rfl) (Nat.le_of_ble_eq_true rfl) (fun X hX hl hE hT hnm => ?_)
  subst hl
  show mw_G X 0 [some (.ref 40), some (.int q)] [] mw_Y0 I L 0 0
  refine mw_aload_n hX dX2_bestEnergy_0 rfl rfl ?_
  refine mw_iload_n hX dX2_bestEnergy_1 rfl rfl ?_
  refine mw_cV hX [_] ws_X2_118 dX2_bestEnergy_2 (c_m_greatestX (mw_l X) q h I L) (mw_Yl (by decide)) mw_YM (by decide) rfl (by omega) (by omega) (by omega) (Nat.le_of_ble_eq_true rfl) ?_
  exact mw_ireturn hX hE dX2_bestEnergy_5 (rfl) (by omega) (by omega)
set_option maxRecDepth 20000 in
theorem c_m_bestEnergyByAll (l : Launch) (cp : Nat) (hcp : cp ≤ 200) (inf : Nat) (hinf : inf ≤ 50) (w : Nat) (hw : w ≤ 200) (m : Nat) (hm : m < 6) (I : mw_I) (hC : I 41 0 = nI cp) (hF : I 44 0 = nI inf) (hW : filledV I 0 = nI w) (L : mw_L) : mw_CT l yX2_bestEnergyByAll (.code yX2_bestEnergyByAll cX2_bestEnergyByAll 2 (some .int)) 5 0 0 [.ref 40, .int (nI (m + 1))] (mw_Y0, I, L) (.inl (some (.int (greI cp inf m I 58 (260 * (m + 1) + w))), mw_Y0, greI cp inf m I, L)) := by
  refine mw_enter RX2 rfl (by decide +kernel) (mw_cat rfl) (Nat.le_of_ble_eq_true rfl) (fun X hX hl hE hT hnm => ?_)
  subst hl
  show mw_G X 0 [some (.ref 40), some (.int (nI (m + 1)))] [] mw_Y0 I L 0 0
  refine mw_aload_n hX dX2_bestEnergyByAll_0 rfl rfl ?_
  refine mw_iload_n hX dX2_bestEnergyByAll_1 rfl rfl ?_
  refine mw_cV hX [_] ws_X2_118 dX2_bestEnergyByAll_2 (c_m_greatest (mw_l X) cp hcp inf hinf w hw m hm I hC hF hW L) (mw_Yl (by decide)) mw_YM (by decide) rfl (by omega) (by omega) (by omega) (Nat.le_of_ble_eq_true rfl) ?_
  exact mw_ireturn hX hE dX2_bestEnergyByAll_5 (rfl) (by omega) (by omega)
set_option maxRecDepth 20000 in
theorem c_m_bestEnergyByAllX (l : Launch) (q : Int32) (h : ¬ okR q 1 6) (I : mw_I) (L : mw_L) : mw_CT l yX2_bestEnergyByAll (.code yX2_bestEnergyByAll cX2_bestEnergyByAll 2 (some .int)) 5 0 0 [.ref 40, .int q] (mw_Y0, I, L) (.inl (some (.int 0), mw_Y0, mw_up I 40 19 1, L)) := by
  refine mw_enter RX2 rfl (by decide +kernel) (mw_cat rfl) (Nat.le_of_ble_eq_true rfl) (fun X hX hl hE hT hnm => ?_)
  subst hl
  show mw_G X 0 [some (.ref 40), some (.int q)] [] mw_Y0 I L 0 0
  refine mw_aload_n hX dX2_bestEnergyByAll_0 rfl rfl ?_
  refine mw_iload_n hX dX2_bestEnergyByAll_1 rfl rfl ?_
  refine mw_cV hX [_] ws_X2_118 dX2_bestEnergyByAll_2 (c_m_greatestX (mw_l X) q h I L) (mw_Yl (by decide)) mw_YM (by decide) rfl (by omega) (by omega) (by omega) (Nat.le_of_ble_eq_true rfl) ?_
  exact mw_ireturn hX hE dX2_bestEnergyByAll_5 (rfl) (by omega) (by omega)
set_option maxRecDepth 20000 in
theorem c_m_bestReleaseX (l : Launch) (q : Int32) (h : ¬ okR q 1 6) (I : mw_I) (L : mw_L) : mw_CT l yX2_bestRelease (.code yX2_bestRelease cX2_bestRelease 6 (some .int)) 5 0 0 [.ref 40, .int q] (mw_Y0, I, L) (.inl (some (.int 0), mw_Y0, mw_up I 40 19 1, L)) := by
  refine mw_enter RX2 rfl (by decide +kernel) (mw_cat rfl) (Nat.le_of_ble_eq_true rfl) (fun X hX hl hE hT hnm => ?_)
  subst hl
  show mw_G X 0 [some (.ref 40), some (.int q), none, none, none, none] [] mw_Y0 I L 0 0
  refine mw_aload_n hX dX2_bestRelease_0 rfl rfl ?_
  refine mw_iload_n hX dX2_bestRelease_1 rfl rfl ?_
  refine mw_cV hX [_] ws_X2_118 dX2_bestRelease_2 (c_m_greatestX (mw_l X) q h I L) (mw_Yl (by decide)) mw_YM (by decide) rfl (by omega) (by omega) (by omega) (Nat.le_of_ble_eq_true rfl) ?_
  refine mw_istore_n hX dX2_bestRelease_5 rfl (Nat.le_of_ble_eq_true rfl) ?_
  dsimp only [List.set]
  refine mw_ic hX 0 dX2_bestRelease_6 rfl ?_
  refine mw_istore_n hX dX2_bestRelease_7 rfl (Nat.le_of_ble_eq_true rfl) ?_
  dsimp only [List.set]
  refine mw_aload_n hX dX2_bestRelease_8 rfl rfl ?_
  refine mw_ic hX 0 dX2_bestRelease_9 rfl ?_
  refine mw_cV hX [_] ws_X2_82 dX2_bestRelease_10 (c_m_filled (mw_l X) 0 (by decide) _ L) (mw_Yl (by decide)) mw_YM (by decide) rfl (by omega) (by omega) (by omega) (Nat.le_of_ble_eq_true rfl) ?_
  refine mw_aload_n hX dX2_bestRelease_13 rfl rfl ?_
  refine mw_getR hX (r := 44) dX2_bestRelease_14 (mw_Yl (by decide)) mw_YM fl_X2_19 (by decide) (by decide) rfl rfl ?_
  refine mw_ic hX 0 dX2_bestRelease_17 rfl ?_
  refine mw_iaload hX (j := 0) dX2_bestRelease_18 (mw_Yl (by decide)) rfl rfl (by decide) (by decide) ?_
  refine mw_iadd hX dX2_bestRelease_19 ?_
  refine mw_istore hX dX2_bestRelease_20 (Nat.le_of_ble_eq_true rfl) ?_
  dsimp only [List.set]
  refine mw_bp hX 16 dX2_bestRelease_22 rfl ?_
  refine mw_istore hX dX2_bestRelease_24 (Nat.le_of_ble_eq_true rfl) ?_
  dsimp only [List.set]
  refine mw_iload hX dX2_bestRelease_26 rfl ?_
  refine mw_if_lt hX (tgt := 75) dX2_bestRelease_28 (by decide) (fun h28 => ?_) (fun h28 => ?_)
  · exact absurd h28 (by decide)
  · refine mw_aload_n hX dX2_bestRelease_31 rfl rfl ?_
    refine mw_getI hX dX2_bestRelease_32 (mw_Yl (by decide)) mw_YM fl_X2_64 (by decide) (by decide) rfl ?_
    refine mw_if_ne hX (tgt := 75) dX2_bestRelease_35 (by decide) (fun h35 => ?_) (fun h35 => ?_)
    · refine mw_iload_n hX dX2_bestRelease_75 rfl rfl ?_
      exact mw_ireturn hX hE dX2_bestRelease_76 (rfl) (by omega) (by omega)
    · exact absurd h35 (by rw [mw_up_at]; decide)
def dnI : Nat → Int32
  | 0 => -4
  | n + 1 => nI (4 * n)
theorem dnI_s (n : Nat) : nI (4 * n) + Int32.ofInt (-4) = dnI n := by
  cases n with
  | zero => decide
  | succ n =>
    show nI (4 * n + 4) + Int32.ofInt (-4) = nI (4 * n)
    have e : nI (4 * n + 4) = nI (4 * n) + 4 := (nI_add (4 * n) 4).symm
    rw [e, Int32.add_assoc, show (4 : Int32) + Int32.ofInt (-4) = 0 by decide, Int32.add_zero]
set_option maxRecDepth 20000 in
theorem c_m_bestRelease (l : Launch) (cp : Nat) (hcp : cp ≤ 200) (inf : Nat) (hinf : inf ≤ 50) (w : Nat) (hw : w ≤ 200) (m : Nat) (hm : m < 6) (I : mw_I) (hC : I 41 0 = nI cp) (hF : I 44 0 = nI inf) (hW : filledV I 0 = nI w) (L : mw_L) : mw_CT l yX2_bestRelease (.code yX2_bestRelease cX2_bestRelease 6 (some .int)) 5 0 0 [.ref 40, .int (nI (m + 1))] (mw_Y0, I, L) (.inl (some (.int (fndV (greI cp inf m I) cp (w + inf) m (greI cp inf m I 58 (260 * (m + 1) + w)) 5 0)), mw_Y0, greI cp inf m I, L)) := by
  refine mw_enter RX2 rfl (by decide +kernel) (mw_cat rfl) (Nat.le_of_ble_eq_true rfl) (fun X hX hl hE hT hnm => ?_)
  subst hl
  show mw_G X 0 [some (.ref 40), some (.int (nI (m + 1))), none, none, none, none] [] mw_Y0 I L 0 0
  refine mw_aload_n hX dX2_bestRelease_0 rfl rfl ?_
  refine mw_iload_n hX dX2_bestRelease_1 rfl rfl ?_
  refine mw_cV hX [_] ws_X2_118 dX2_bestRelease_2 (c_m_greatest (mw_l X) cp hcp inf hinf w hw m hm I hC hF hW L) (mw_Yl (by decide)) mw_YM (by decide) rfl (by omega) (by omega) (by omega) (Nat.le_of_ble_eq_true rfl) ?_
  refine mw_istore_n hX dX2_bestRelease_5 rfl (Nat.le_of_ble_eq_true rfl) ?_
  dsimp only [List.set]
  refine mw_ic hX 0 dX2_bestRelease_6 rfl ?_
  refine mw_istore_n hX dX2_bestRelease_7 rfl (Nat.le_of_ble_eq_true rfl) ?_
  dsimp only [List.set]
  refine mw_aload_n hX dX2_bestRelease_8 rfl rfl ?_
  refine mw_ic hX 0 dX2_bestRelease_9 rfl ?_
  refine mw_cV hX [_] ws_X2_82 dX2_bestRelease_10 (c_m_filled (mw_l X) 0 (by decide) _ L) (mw_Yl (by decide)) mw_YM (by decide) rfl (by omega) (by omega) (by omega) (Nat.le_of_ble_eq_true rfl) ?_
  rw [show filledV (greI cp inf m I) 0 = nI w from fil_gre.trans hW]
  refine mw_aload_n hX dX2_bestRelease_13 rfl rfl ?_
  refine mw_getR hX (r := 44) dX2_bestRelease_14 (mw_Yl (by decide)) mw_YM fl_X2_19 (by decide) (by decide) rfl rfl ?_
  refine mw_ic hX 0 dX2_bestRelease_17 rfl ?_
  refine mw_iaload hX (j := 0) dX2_bestRelease_18 (mw_Yl (by decide)) rfl rfl (by decide) (by decide) ?_
  rw [show greI cp inf m I 44 0 = nI inf from (congrFun (fr_gre (by decide) (by decide)) 0).trans hF]
  refine mw_iadd hX dX2_bestRelease_19 ?_
  rw [nI_add]
  refine mw_istore hX dX2_bestRelease_20 (Nat.le_of_ble_eq_true rfl) ?_
  dsimp only [List.set]
  refine mw_bp hX 16 dX2_bestRelease_22 rfl ?_
  refine mw_istore hX dX2_bestRelease_24 (Nat.le_of_ble_eq_true rfl) ?_
  dsimp only [List.set]
  have hC2 : greI cp inf m I 41 0 = nI cp := (congrFun (fr_gre (by decide) (by decide)) 0).trans hC
  have hZ : greI cp inf m I 40 19 = 0 := (congrFun (fr_lays (by decide)) 19).trans mw_up_at
  generalize hK : greI cp inf m I = K at hE hC2 hZ ⊢
  have key : ∀ (n : Nat) (z : Int32), n ≤ 5 → fndV K cp (w + inf) m (K 58 (260 * (m + 1) + w)) n z = fndV K cp (w + inf) m (K 58 (260 * (m + 1) + w)) 5 0 → mw_G X 26 [some (.ref 40), some (.int (nI (m + 1))), some (.int (K 58 (260 * (m + 1) + w))), some (.int z), some (.int (nI (w + inf))), some (.int (dnI n))] [] mw_Y0 K L 0 0 := by
    intro n
    induction n with
    | zero =>
      intro z hj hR
      show mw_G X 26 [some (.ref 40), some (.int (nI (m + 1))), some (.int (K 58 (260 * (m + 1) + w))), some (.int z), some (.int (nI (w + inf))), some (.int (-4))] [] mw_Y0 K L 0 0
      refine mw_iload hX dX2_bestRelease_26 rfl ?_
      refine mw_if_lt hX (tgt := 75) dX2_bestRelease_28 (by decide) (fun h28 => ?_) (fun h28 => ?_)
      · refine mw_iload_n hX dX2_bestRelease_75 rfl rfl ?_
        exact mw_ireturn hX hE dX2_bestRelease_76 (by rw [← hR]; rfl) (by omega) (by omega)
      · exact absurd (show ((-4 : Int32) < 0) by decide) h28
    | succ n ih =>
      intro z hj hR
      show mw_G X 26 [some (.ref 40), some (.int (nI (m + 1))), some (.int (K 58 (260 * (m + 1) + w))), some (.int z), some (.int (nI (w + inf))), some (.int (nI (4 * n)))] [] mw_Y0 K L 0 0
      refine mw_iload hX dX2_bestRelease_26 rfl ?_
      refine mw_if_lt hX (tgt := 75) dX2_bestRelease_28 (by decide) (fun h28 => ?_) (fun h28 => ?_)
      · exact absurd h28 (nI_pos (by omega))
      · refine mw_aload_n hX dX2_bestRelease_31 rfl rfl ?_
        refine mw_getI hX dX2_bestRelease_32 (mw_Yl (by decide)) mw_YM fl_X2_64 (by decide) (by decide) rfl ?_
        refine mw_if_ne hX (tgt := 75) dX2_bestRelease_35 (by decide) (fun h35 => ?_) (fun h35 => ?_)
        · exact absurd hZ h35
        · refine mw_aload_n hX dX2_bestRelease_38 rfl rfl ?_
          refine mw_iload hX dX2_bestRelease_39 rfl ?_
          refine mw_iload hX dX2_bestRelease_41 rfl ?_
          refine mw_cV hX [_, _] ws_X2_107 dX2_bestRelease_43 (c_m_may (mw_l X) (nI (4 * n)) (nI (w + inf)) _ L) (mw_Yl (by decide)) mw_YM (by decide) rfl (by omega) (by omega) (by omega) (Nat.le_of_ble_eq_true rfl) ?_
          refine mw_if_eq hX (tgt := 67) dX2_bestRelease_46 (by decide) (fun h46 => ?_) (fun h46 => ?_)
          · refine mw_iload_n hX dX2_bestRelease_67 rfl rfl ?_
            refine mw_istore_n hX dX2_bestRelease_68 rfl (Nat.le_of_ble_eq_true rfl) ?_
            dsimp only [List.set]
            refine mw_inc hX (dnI n) dX2_bestRelease_69 rfl (dnI_s n) ?_
            dsimp only [List.set]
            refine mw_goto hX (tgt := 26) dX2_bestRelease_72 (by decide) ?_
            exact ih _ (by omega) (by rw [← hR, fndV, fndF, if_pos h46])
          · refine mw_aload_n hX dX2_bestRelease_49 rfl rfl ?_
            refine mw_iload hX dX2_bestRelease_50 rfl ?_
            refine mw_iload hX dX2_bestRelease_52 rfl ?_
            refine mw_iload_n hX dX2_bestRelease_54 rfl rfl ?_
            refine mw_cV hX [_, _, _] ws_X2_111 dX2_bestRelease_55 (c_m_comes (mw_l X) (4 * n) (w + inf) (may_le (by omega) (by omega) h46) (by omega) cp hcp m hm _ hC2 L) (mw_Yl (by decide)) mw_YM (by decide) rfl (by omega) (by omega) (by omega) (Nat.le_of_ble_eq_true rfl) ?_
            refine mw_iload_n hX dX2_bestRelease_58 rfl rfl ?_
            refine mw_icmp_ne hX (tgt := 67) dX2_bestRelease_59 (by decide) (fun h59 => ?_) (fun h59 => ?_)
            · refine mw_iload_n hX dX2_bestRelease_67 rfl rfl ?_
              refine mw_istore_n hX dX2_bestRelease_68 rfl (Nat.le_of_ble_eq_true rfl) ?_
              dsimp only [List.set]
              refine mw_inc hX (dnI n) dX2_bestRelease_69 rfl (dnI_s n) ?_
              dsimp only [List.set]
              refine mw_goto hX (tgt := 26) dX2_bestRelease_72 (by decide) ?_
              exact ih _ (by omega) (by rw [← hR, fndV, fndF, if_neg h46, if_neg h59])
            · refine mw_iload hX dX2_bestRelease_62 rfl ?_
              refine mw_goto hX (tgt := 68) dX2_bestRelease_64 (by decide) ?_
              refine mw_istore_n hX dX2_bestRelease_68 rfl (Nat.le_of_ble_eq_true rfl) ?_
              dsimp only [List.set]
              refine mw_inc hX (dnI n) dX2_bestRelease_69 rfl (dnI_s n) ?_
              dsimp only [List.set]
              refine mw_goto hX (tgt := 26) dX2_bestRelease_72 (by decide) ?_
              exact ih _ (by omega) (by rw [← hR, fndV, fndF, if_neg h46, if_pos h59])
  exact key 5 0 (by omega) rfl
