/-! WaterCascade: the best releases of plant 0 (by program: wip/whole/gen20.py) -/
theorem mw_4 (j : Nat) : nI (4 * j) + 4 = nI (4 * (j + 1)) := nI_add (4 * j) 4
theorem mw_4' (j : Nat) : nI (4 * j) + Int32.ofInt 4 = nI (4 * (j + 1)) := mw_4 j
def leastN (I : mw_I) (b : Nat) (v : Int32) : Nat := (leastV I b v).toNatClampNeg / 4
theorem least_N {I : mw_I} {b mn : Nat} (hm : I b 3 = nI mn) (hmn : mn ≤ 20) (v : Int32) : leastV I b v = nI (4 * leastN I b v) ∧ leastN I b v ≤ 4 := by
  have e : (I b 3 + 4 - 1) / 4 * 4 = nI (4 * ((mn + 3) / 4)) := by
    rw [hm, mw_n4, mw_n1, nI_add, pk_sub (by omega), pk_div (by omega) (by omega) (by omega), pk_mul, show mn + 4 - 1 = mn + 3 by omega, Nat.mul_comm]
  have h1 : leastV I b v = 0 ∨ (leastV I b v = nI (4 * ((mn + 3) / 4)) ∧ ¬ 16 < nI (4 * ((mn + 3) / 4))) := by
    unfold leastV
    rw [e]
    split
    · exact Or.inl rfl
    · rename_i h
      exact Or.inr ⟨rfl, fun q => h (Or.inl q)⟩
  rcases h1 with h1 | ⟨h1, h2⟩
  · have h3 : leastN I b v = 0 := by unfold leastN; rw [h1]; rfl
    rw [h3, h1]
    exact ⟨rfl, by omega⟩
  · have h3 : 4 * ((mn + 3) / 4) ≤ 16 := Nat.le_of_not_lt (fun q => h2 (nI_lt (a := 16) q (by omega)))
    have h4 : leastN I b v = (mn + 3) / 4 := by unfold leastN; rw [h1, nI_clamp (by omega)]; omega
    rw [h4, h1]
    exact ⟨rfl, by omega⟩
def energyFromV (I : mw_I) (v r : Int32) : Int32 := energyV I (7 + 11 * 0) v r + (if behindV I (7 + 11 * 0) v r < 0 ∨ 200 < behindV I (7 + 11 * 0) v r then 0 else I 5 (behindV I (7 + 11 * 0) v r).toNatClampNeg)
def lbStep (I : mw_I) (v : Int32) (j : Nat) (s : Int32 × Int32) : Int32 × Int32 := if energyFromV I v (nI (4 * j)) ≤ s.2 then s else (nI (4 * j), energyFromV I v (nI (4 * j)))
def lbF (I : mw_I) (v : Int32) : Nat → Nat → Int32 × Int32 → Int32 × Int32
  | 0, _, s => s
  | n + 1, j, s => if 16 < nI (4 * j) ∨ v < nI (4 * j) then s else lbF I v n (j + 1) (lbStep I v j s)
def leastBestV (I : mw_I) (v : Int32) : Int32 := (lbF I v (4 - leastN I (7 + 11 * 0) v) (leastN I (7 + 11 * 0) v + 1) (nI (4 * leastN I (7 + 11 * 0) v), energyFromV I v (nI (4 * leastN I (7 + 11 * 0) v)))).1
def greatFromV (I : mw_I) (v : Int32) : Int32 := energyFromV I (v + I (7 + 11 * 0) 4) (leastBestV I (v + I (7 + 11 * 0) 4))
def wb0 (I : mw_I) : mw_I := lpN (fun k J => mw_up J 5 k 0) 201 I
def wbRow (I : mw_I) : mw_I := lpN (fun c J => mw_up J 6 c (greatFromV J (nI c))) 201 I
def wbStep (I : mw_I) : mw_I := fun q => if q = 5 then va_cpy (wbRow I 6) (wbRow I 5) 0 0 201 else wbRow I q
def wbI (m : Nat) (I : mw_I) : mw_I := lpN (fun _ J => wbStep J) m (wb0 I)
def gF (I : mw_I) (b : Nat) (v : Int32) (rc : Int32 → Int32) : Nat → Nat → Int32 → Int32
  | 0, _, s => s
  | n + 1, j, s => if 16 < nI (4 * j) ∨ v < nI (4 * j) then s else gF I b v rc n (j + 1) (if s < energyV I b v (nI (4 * j)) + rc (behindV I b v (nI (4 * j))) then energyV I b v (nI (4 * j)) + rc (behindV I b v (nI (4 * j))) else s)
def gbtV (I : mw_I) (b : Nat) : Nat → Int32 → Int32
  | 0, _ => 0
  | m + 1, v => gF I b (v + I b 4) (gbtV I b m) (5 - leastN I b (v + I b 4)) (leastN I b (v + I b 4)) 0
theorem fr_wb0 {I : mw_I} {a n : Nat} (h : a ≠ 5) : lpN (fun k J => mw_up J 5 k 0) n I a = I a := lpN_inv (P := fun (J : mw_I) => J a = I a) n (fun _ _ _ hz => (mw_up_ne h).trans hz) rfl
theorem fr_wbR {I : mw_I} {a n : Nat} (h : a ≠ 6) : lpN (fun c J => mw_up J 6 c (greatFromV J (nI c))) n I a = I a := lpN_inv (P := fun (J : mw_I) => J a = I a) n (fun _ _ _ hz => (mw_up_ne h).trans hz) rfl
theorem fr_wbS {I : mw_I} {a : Nat} (h : a ≠ 5) (h2 : a ≠ 6) : wbStep I a = I a := by
  unfold wbStep
  rw [if_neg h]
  exact fr_wbR h2
theorem fr_wbSs {I : mw_I} {a n : Nat} (h : a ≠ 5) (h2 : a ≠ 6) : lpN (fun _ J => wbStep J) n I a = I a := lpN_inv (P := fun (J : mw_I) => J a = I a) n (fun _ _ _ hz => (fr_wbS h h2).trans hz) rfl
theorem fr_wb {I : mw_I} {a m : Nat} (h : a ≠ 5) (h2 : a ≠ 6) : wbI m I a = I a := (fr_wbSs h h2).trans (fr_wb0 h)
set_option maxRecDepth 20000 in
theorem c_energyFrom (l : Launch) (v r : Int32) (I : mw_I) (L : mw_L) : mw_CT l yX1_energyFrom (.code yX1_energyFrom cX1_energyFrom 5 (some .int)) 4 0 0 [.ref 0, .int v, .int r] (mw_Y0, I, L) (.inl (some (.int (energyFromV I v r)), mw_Y0, I, L)) := by
  refine mw_enter RX1 rfl (by decide +kernel) (mw_cat rfl) (Nat.le_of_ble_eq_true rfl) (fun X hX hl hE hT hnm => ?_)
  subst hl
  show mw_G X 0 [some (.ref 0), some (.int v), some (.int r), none, none] [] mw_Y0 I L 0 0
  refine mw_aload_n hX dX1_energyFrom_0 rfl rfl ?_
  refine mw_getR hX (r := 1) dX1_energyFrom_1 (mw_Yl (by decide)) mw_YW fl_X1_11 (by decide) (by decide) rfl rfl ?_
  refine mw_ic hX 0 dX1_energyFrom_4 rfl ?_
  refine mw_aaloadP hX (j := 0) dX1_energyFrom_5 (mw_Yl (by decide)) rfl rfl (by decide) (by decide) (mw_Yp (by omega)) ?_
  refine mw_iload_n hX dX1_energyFrom_6 rfl rfl ?_
  refine mw_iload_n hX dX1_energyFrom_7 rfl rfl ?_
  refine mw_cV hX [_, _] ws_X1_177 dX1_energyFrom_8 (c_levelBehind (mw_l X) mw_Y0 _ (mw_P0 (i := 0) (by omega)) v r I L) (mw_P0 (i := 0) (by omega)).l0 (mw_P0 (i := 0) (by omega)).s0 (by decide) rfl (by omega) (by omega) (by omega) (Nat.le_of_ble_eq_true rfl) ?_
  refine mw_istore_n hX dX1_energyFrom_11 rfl (Nat.le_of_ble_eq_true rfl) ?_
  dsimp only [List.set]
  refine mw_iload_n hX dX1_energyFrom_12 rfl rfl ?_
  refine mw_if_lt hX (tgt := 23) dX1_energyFrom_13 (by decide) (fun h13 => ?_) (fun h13 => ?_)
  · refine mw_ic hX 0 dX1_energyFrom_23 rfl ?_
    refine mw_goto hX (tgt := 33) dX1_energyFrom_24 (by decide) ?_
    refine mw_istore hX dX1_energyFrom_33 (Nat.le_of_ble_eq_true rfl) ?_
    dsimp only [List.set]
    refine mw_aload_n hX dX1_energyFrom_35 rfl rfl ?_
    refine mw_getR hX (r := 1) dX1_energyFrom_36 (mw_Yl (by decide)) mw_YW fl_X1_11 (by decide) (by decide) rfl rfl ?_
    refine mw_ic hX 0 dX1_energyFrom_39 rfl ?_
    refine mw_aaloadP hX (j := 0) dX1_energyFrom_40 (mw_Yl (by decide)) rfl rfl (by decide) (by decide) (mw_Yp (by omega)) ?_
    refine mw_iload_n hX dX1_energyFrom_41 rfl rfl ?_
    refine mw_iload_n hX dX1_energyFrom_42 rfl rfl ?_
    refine mw_cV hX [_, _] ws_X1_180 dX1_energyFrom_43 (c_energyAt (mw_l X) mw_Y0 _ (mw_P0 (i := 0) (by omega)) v r I L) (mw_P0 (i := 0) (by omega)).l0 (mw_P0 (i := 0) (by omega)).s0 (by decide) rfl (by omega) (by omega) (by omega) (Nat.le_of_ble_eq_true rfl) ?_
    refine mw_iload hX dX1_energyFrom_46 rfl ?_
    refine mw_iadd hX dX1_energyFrom_48 ?_
    exact mw_ireturn hX hE dX1_energyFrom_49 (by rw [energyFromV, if_pos (Or.inl h13)]) (by omega) (by omega)
  · refine mw_iload_n hX dX1_energyFrom_16 rfl rfl ?_
    refine mw_sp hX 200 dX1_energyFrom_17 rfl ?_
    refine mw_icmp_le hX (tgt := 27) dX1_energyFrom_20 (by decide) (fun h20 => ?_) (fun h20 => ?_)
    · obtain ⟨j, hj, e⟩ := okR_nat (n := 200) (by decide) ⟨h13, h20⟩
      refine mw_aload_n hX dX1_energyFrom_27 rfl rfl ?_
      refine mw_getR hX (r := 5) dX1_energyFrom_28 (mw_Yl (by decide)) mw_YW fl_X1_25 (by decide) (by decide) rfl rfl ?_
      refine mw_iload_n hX dX1_energyFrom_31 rfl rfl ?_
      refine mw_iaload hX (j := j) dX1_energyFrom_32 (mw_Yl (by decide)) rfl e (by omega) (by decide) ?_
      refine mw_istore hX dX1_energyFrom_33 (Nat.le_of_ble_eq_true rfl) ?_
      dsimp only [List.set]
      refine mw_aload_n hX dX1_energyFrom_35 rfl rfl ?_
      refine mw_getR hX (r := 1) dX1_energyFrom_36 (mw_Yl (by decide)) mw_YW fl_X1_11 (by decide) (by decide) rfl rfl ?_
      refine mw_ic hX 0 dX1_energyFrom_39 rfl ?_
      refine mw_aaloadP hX (j := 0) dX1_energyFrom_40 (mw_Yl (by decide)) rfl rfl (by decide) (by decide) (mw_Yp (by omega)) ?_
      refine mw_iload_n hX dX1_energyFrom_41 rfl rfl ?_
      refine mw_iload_n hX dX1_energyFrom_42 rfl rfl ?_
      refine mw_cV hX [_, _] ws_X1_180 dX1_energyFrom_43 (c_energyAt (mw_l X) mw_Y0 _ (mw_P0 (i := 0) (by omega)) v r I L) (mw_P0 (i := 0) (by omega)).l0 (mw_P0 (i := 0) (by omega)).s0 (by decide) rfl (by omega) (by omega) (by omega) (Nat.le_of_ble_eq_true rfl) ?_
      refine mw_iload hX dX1_energyFrom_46 rfl ?_
      refine mw_iadd hX dX1_energyFrom_48 ?_
      exact mw_ireturn hX hE dX1_energyFrom_49 (by rw [energyFromV, if_neg (fun q => q.elim h13 (fun q => absurd h20 (Int32.not_le.mpr q))), e, nI_clamp (by omega)]) (by omega) (by omega)
    · refine mw_ic hX 0 dX1_energyFrom_23 rfl ?_
      refine mw_goto hX (tgt := 33) dX1_energyFrom_24 (by decide) ?_
      refine mw_istore hX dX1_energyFrom_33 (Nat.le_of_ble_eq_true rfl) ?_
      dsimp only [List.set]
      refine mw_aload_n hX dX1_energyFrom_35 rfl rfl ?_
      refine mw_getR hX (r := 1) dX1_energyFrom_36 (mw_Yl (by decide)) mw_YW fl_X1_11 (by decide) (by decide) rfl rfl ?_
      refine mw_ic hX 0 dX1_energyFrom_39 rfl ?_
      refine mw_aaloadP hX (j := 0) dX1_energyFrom_40 (mw_Yl (by decide)) rfl rfl (by decide) (by decide) (mw_Yp (by omega)) ?_
      refine mw_iload_n hX dX1_energyFrom_41 rfl rfl ?_
      refine mw_iload_n hX dX1_energyFrom_42 rfl rfl ?_
      refine mw_cV hX [_, _] ws_X1_180 dX1_energyFrom_43 (c_energyAt (mw_l X) mw_Y0 _ (mw_P0 (i := 0) (by omega)) v r I L) (mw_P0 (i := 0) (by omega)).l0 (mw_P0 (i := 0) (by omega)).s0 (by decide) rfl (by omega) (by omega) (by omega) (Nat.le_of_ble_eq_true rfl) ?_
      refine mw_iload hX dX1_energyFrom_46 rfl ?_
      refine mw_iadd hX dX1_energyFrom_48 ?_
      exact mw_ireturn hX hE dX1_energyFrom_49 (by rw [energyFromV, if_pos (Or.inr (Int32.not_le.mp h20))]) (by omega) (by omega)
set_option maxRecDepth 20000 in
theorem c_leastBestRelease (l : Launch) (v : Int32) (mn : Nat) (hmn : mn ≤ 20) (I : mw_I) (hm : I (7 + 11 * 0) 3 = nI mn) (L : mw_L) : mw_CT l yX1_leastBestRelease (.code yX1_leastBestRelease cX1_leastBestRelease 7 (some .int)) 5 0 0 [.ref 0, .int v] (mw_Y0, I, L) (.inl (some (.int (leastBestV I v)), mw_Y0, I, L)) := by
  refine mw_enter RX1 rfl (by decide +kernel) (mw_cat rfl) (Nat.le_of_ble_eq_true rfl) (fun X hX hl hE hT hnm => ?_)
  subst hl
  show mw_G X 0 [some (.ref 0), some (.int v), none, none, none, none, none] [] mw_Y0 I L 0 0
  refine mw_aload_n hX dX1_leastBestRelease_0 rfl rfl ?_
  refine mw_getR hX (r := 1) dX1_leastBestRelease_1 (mw_Yl (by decide)) mw_YW fl_X1_11 (by decide) (by decide) rfl rfl ?_
  refine mw_ic hX 0 dX1_leastBestRelease_4 rfl ?_
  refine mw_aaloadP hX (j := 0) dX1_leastBestRelease_5 (mw_Yl (by decide)) rfl rfl (by decide) (by decide) (mw_Yp (by omega)) ?_
  refine mw_iload_n hX dX1_leastBestRelease_6 rfl rfl ?_
  refine mw_cV hX [_] ws_X1_174 dX1_leastBestRelease_7 (c_leastRelease (mw_l X) mw_Y0 _ (mw_P0 (i := 0) (by omega)) v I L) (mw_P0 (i := 0) (by omega)).l0 (mw_P0 (i := 0) (by omega)).s0 (by decide) rfl (by omega) (by omega) (by omega) (Nat.le_of_ble_eq_true rfl) ?_
  obtain ⟨hL1, hL4⟩ := least_N hm hmn v
  obtain ⟨f0, hf0⟩ : ∃ f0, leastN I (7 + 11 * 0) v = f0 := ⟨_, rfl⟩
  rw [hf0] at hL1 hL4
  rw [hL1]
  refine mw_istore_n hX dX1_leastBestRelease_10 rfl (Nat.le_of_ble_eq_true rfl) ?_
  dsimp only [List.set]
  refine mw_iload_n hX dX1_leastBestRelease_11 rfl rfl ?_
  refine mw_istore_n hX dX1_leastBestRelease_12 rfl (Nat.le_of_ble_eq_true rfl) ?_
  dsimp only [List.set]
  refine mw_aload_n hX dX1_leastBestRelease_13 rfl rfl ?_
  refine mw_iload_n hX dX1_leastBestRelease_14 rfl rfl ?_
  refine mw_iload_n hX dX1_leastBestRelease_15 rfl rfl ?_
  refine mw_cV hX [_, _] ws_X1_171 dX1_leastBestRelease_16 (c_energyFrom (mw_l X) v _ I L) (mw_Yl (by decide)) mw_YW (by decide) rfl (by omega) (by omega) (by omega) (Nat.le_of_ble_eq_true rfl) ?_
  refine mw_istore hX dX1_leastBestRelease_19 (Nat.le_of_ble_eq_true rfl) ?_
  dsimp only [List.set]
  refine mw_iload_n hX dX1_leastBestRelease_21 rfl rfl ?_
  refine mw_ic hX 4 dX1_leastBestRelease_22 rfl ?_
  refine mw_iadd hX dX1_leastBestRelease_23 ?_
  rw [mw_4]
  refine mw_istore hX dX1_leastBestRelease_24 (Nat.le_of_ble_eq_true rfl) ?_
  dsimp only [List.set]
  have key : ∀ (n j : Nat) (s : Int32 × Int32), j + n = 5 → (lbF I v n j s).1 = leastBestV I v → mw_G X 26 [some (.ref 0), some (.int v), some (.int (nI (4 * f0))), some (.int s.1), some (.int s.2), some (.int (nI (4 * j))), none] [] mw_Y0 I L 0 0 := by
    intro n
    induction n with
    | zero =>
      intro j s hj hR
      refine mw_iload hX dX1_leastBestRelease_26 rfl ?_
      refine mw_bp hX 16 dX1_leastBestRelease_28 rfl ?_
      refine mw_icmp_gt hX (tgt := 68) dX1_leastBestRelease_30 (by decide) (fun h30 => ?_) (fun h30 => ?_)
      · refine mw_iload_n hX dX1_leastBestRelease_68 rfl rfl ?_
        exact mw_ireturn hX hE dX1_leastBestRelease_69 (by rw [← hR]; rfl) (by omega) (by omega)
      · exact absurd (nI_lt (a := 16) (b := 4 * j) (by omega) (by omega)) h30
    | succ n ih =>
      intro j s hj hR
      refine mw_iload hX dX1_leastBestRelease_26 rfl ?_
      refine mw_bp hX 16 dX1_leastBestRelease_28 rfl ?_
      refine mw_icmp_gt hX (tgt := 68) dX1_leastBestRelease_30 (by decide) (fun h30 => ?_) (fun h30 => ?_)
      · refine mw_iload_n hX dX1_leastBestRelease_68 rfl rfl ?_
        exact mw_ireturn hX hE dX1_leastBestRelease_69 (by rw [← hR, lbF, if_pos (Or.inl h30)]) (by omega) (by omega)
      · refine mw_iload hX dX1_leastBestRelease_33 rfl ?_
        refine mw_iload_n hX dX1_leastBestRelease_35 rfl rfl ?_
        refine mw_icmp_gt hX (tgt := 68) dX1_leastBestRelease_36 (by decide) (fun h36 => ?_) (fun h36 => ?_)
        · refine mw_iload_n hX dX1_leastBestRelease_68 rfl rfl ?_
          exact mw_ireturn hX hE dX1_leastBestRelease_69 (by rw [← hR, lbF, if_pos (Or.inr h36)]) (by omega) (by omega)
        · refine mw_aload_n hX dX1_leastBestRelease_39 rfl rfl ?_
          refine mw_iload_n hX dX1_leastBestRelease_40 rfl rfl ?_
          refine mw_iload hX dX1_leastBestRelease_41 rfl ?_
          refine mw_cV hX [_, _] ws_X1_171 dX1_leastBestRelease_43 (c_energyFrom (mw_l X) v _ I L) (mw_Yl (by decide)) mw_YW (by decide) rfl (by omega) (by omega) (by omega) (Nat.le_of_ble_eq_true rfl) ?_
          refine mw_istore hX dX1_leastBestRelease_46 (Nat.le_of_ble_eq_true rfl) ?_
          dsimp only [List.set]
          refine mw_iload hX dX1_leastBestRelease_48 rfl ?_
          refine mw_iload hX dX1_leastBestRelease_50 rfl ?_
          refine mw_icmp_le hX (tgt := 62) dX1_leastBestRelease_52 (by decide) (fun h52 => ?_) (fun h52 => ?_)
          · refine mw_inc hX (nI (4 * (j + 1))) dX1_leastBestRelease_62 rfl (mw_4' _) ?_
            dsimp only [List.set]
            refine mw_goto hX (tgt := 26) dX1_leastBestRelease_65 (by decide) ?_
            refine mw_drop 6 ?_
            dsimp only [List.set]
            exact ih (j + 1) s (by omega) (by rw [← hR, lbF, if_neg (fun q => q.elim h30 h36), lbStep, if_pos h52])
          · refine mw_iload hX dX1_leastBestRelease_55 rfl ?_
            refine mw_istore_n hX dX1_leastBestRelease_57 rfl (Nat.le_of_ble_eq_true rfl) ?_
            dsimp only [List.set]
            refine mw_iload hX dX1_leastBestRelease_58 rfl ?_
            refine mw_istore hX dX1_leastBestRelease_60 (Nat.le_of_ble_eq_true rfl) ?_
            dsimp only [List.set]
            refine mw_inc hX (nI (4 * (j + 1))) dX1_leastBestRelease_62 rfl (mw_4' _) ?_
            dsimp only [List.set]
            refine mw_goto hX (tgt := 26) dX1_leastBestRelease_65 (by decide) ?_
            refine mw_drop 6 ?_
            dsimp only [List.set]
            exact ih (j + 1) (nI (4 * j), energyFromV I v (nI (4 * j))) (by omega) (by rw [← hR, lbF, if_neg (fun q => q.elim h30 h36), lbStep, if_neg h52])
  exact key (4 - f0) (f0 + 1) (nI (4 * f0), energyFromV I v (nI (4 * f0))) (by omega) (by rw [leastBestV, hf0])
set_option maxRecDepth 20000 in
theorem c_greatestFrom (l : Launch) (v : Int32) (mn : Nat) (hmn : mn ≤ 20) (I : mw_I) (hm : I (7 + 11 * 0) 3 = nI mn) (L : mw_L) : mw_CT l yX1_greatestFrom (.code yX1_greatestFrom cX1_greatestFrom 3 (some .int)) 6 0 0 [.ref 0, .int v] (mw_Y0, I, L) (.inl (some (.int (greatFromV I v)), mw_Y0, I, L)) := by
  refine mw_enter RX1 rfl (by decide +kernel) (mw_cat rfl) (Nat.le_of_ble_eq_true rfl) (fun X hX hl hE hT hnm => ?_)
  subst hl
  show mw_G X 0 [some (.ref 0), some (.int v), none] [] mw_Y0 I L 0 0
  refine mw_iload_n hX dX1_greatestFrom_0 rfl rfl ?_
  refine mw_aload_n hX dX1_greatestFrom_1 rfl rfl ?_
  refine mw_getR hX (r := 1) dX1_greatestFrom_2 (mw_Yl (by decide)) mw_YW fl_X1_11 (by decide) (by decide) rfl rfl ?_
  refine mw_ic hX 0 dX1_greatestFrom_5 rfl ?_
  refine mw_aaloadP hX (j := 0) dX1_greatestFrom_6 (mw_Yl (by decide)) rfl rfl (by decide) (by decide) (mw_Yp (by omega)) ?_
  refine mw_getI hX dX1_greatestFrom_7 (mw_P0 (i := 0) (by omega)).l0 (mw_P0 (i := 0) (by omega)).s0 fl_X1_50 (by decide) (by decide) rfl ?_
  refine mw_iadd hX dX1_greatestFrom_10 ?_
  refine mw_istore_n hX dX1_greatestFrom_11 rfl (Nat.le_of_ble_eq_true rfl) ?_
  dsimp only [List.set]
  refine mw_aload_n hX dX1_greatestFrom_12 rfl rfl ?_
  refine mw_iload_n hX dX1_greatestFrom_13 rfl rfl ?_
  refine mw_aload_n hX dX1_greatestFrom_14 rfl rfl ?_
  refine mw_iload_n hX dX1_greatestFrom_15 rfl rfl ?_
  refine mw_cV hX [_] ws_X1_132 dX1_greatestFrom_16 (c_leastBestRelease (mw_l X) _ mn hmn I hm L) (mw_Yl (by decide)) mw_YW (by decide) rfl (by omega) (by omega) (by omega) (Nat.le_of_ble_eq_true rfl) ?_
  refine mw_cV hX [_, _] ws_X1_171 dX1_greatestFrom_19 (c_energyFrom (mw_l X) _ _ I L) (mw_Yl (by decide)) mw_YW (by decide) rfl (by omega) (by omega) (by omega) (Nat.le_of_ble_eq_true rfl) ?_
  exact mw_ireturn hX hE dX1_greatestFrom_22 (rfl) (by omega) (by omega)
set_option maxRecDepth 20000 in
theorem c_workBackTo (l : Launch) (m : Nat) (h6 : m ≤ 6) (mn : Nat) (hmn : mn ≤ 20) (I : mw_I) (hm : I (7 + 11 * 0) 3 = nI mn) (L : mw_L) : mw_CT l yX1_workBackTo (.code yX1_workBackTo cX1_workBackTo 4 none) 7 0 0 [.ref 0, .int (nI m)] (mw_Y0, I, L) (.inl (none, mw_Y0, wbI m I, L)) := by
  refine mw_enter RX1 rfl (by decide +kernel) (mw_cat rfl) (Nat.le_of_ble_eq_true rfl) (fun X hX hl hE hT hnm => ?_)
  subst hl
  show mw_G X 0 [some (.ref 0), some (.int (nI m)), none, none] [] mw_Y0 I L 0 0
  refine mw_ic hX 0 dX1_workBackTo_0 rfl ?_
  refine mw_istore_n hX dX1_workBackTo_1 rfl (Nat.le_of_ble_eq_true rfl) ?_
  dsimp only [List.set]
  refine lp_dn (P := fun k => mw_G X 2 [some (.ref 0), some (.int (nI m)), some (.int (nI (k))), none] [] mw_Y0 (lpN (fun k J => mw_up J 5 k 0) k I) (L) 0 0) 0 201 ?_ ?_ 0 (Nat.le_refl _) (by omega)
  · show mw_G X 2 [some (.ref 0), some (.int (nI m)), some (.int (nI (201))), none] [] mw_Y0 (lpN (fun k J => mw_up J 5 k 0) 201 I) (L) 0 0
    refine mw_iload_n hX dX1_workBackTo_2 rfl rfl ?_
    refine mw_sp hX 200 dX1_workBackTo_3 rfl ?_
    refine mw_icmp_gt hX (tgt := 22) dX1_workBackTo_6 (by decide) (fun h6 => ?_) (fun h6 => ?_)
    · refine mw_ic hX 0 dX1_workBackTo_22 rfl ?_
      refine mw_istore_n hX dX1_workBackTo_23 rfl (Nat.le_of_ble_eq_true rfl) ?_
      dsimp only [List.set]
      refine mw_drop 3 ?_
      dsimp only [List.set]
      refine lp_dn (P := fun k => mw_G X 24 [some (.ref 0), some (.int (nI m)), some (.int (nI (k))), none] [] mw_Y0 (lpN (fun _ J => wbStep J) k (wb0 I)) (L) 0 0) 0 m ?_ ?_ 0 (Nat.le_refl _) (by omega)
      · show mw_G X 24 [some (.ref 0), some (.int (nI m)), some (.int (nI (m))), none] [] mw_Y0 (lpN (fun _ J => wbStep J) m (wb0 I)) (L) 0 0
        refine mw_iload_n hX dX1_workBackTo_24 rfl rfl ?_
        refine mw_iload_n hX dX1_workBackTo_25 rfl rfl ?_
        refine mw_icmp_ge hX (tgt := 77) dX1_workBackTo_26 (by decide) (fun h26 => ?_) (fun h26 => ?_)
        · exact mw_return hX hE dX1_workBackTo_77 (rfl) (by omega) (by omega)
        · exact absurd (nI_le (a := m) (b := m) (by omega) (by omega)) h26
      · intro k hsk hk ihk
        show mw_G X 24 [some (.ref 0), some (.int (nI m)), some (.int (nI (k))), none] [] mw_Y0 (lpN (fun _ J => wbStep J) k (wb0 I)) (L) 0 0
        refine mw_iload_n hX dX1_workBackTo_24 rfl rfl ?_
        refine mw_iload_n hX dX1_workBackTo_25 rfl rfl ?_
        refine mw_icmp_ge hX (tgt := 77) dX1_workBackTo_26 (by decide) (fun h26 => ?_) (fun h26 => ?_)
        · exact absurd h26 (nI_ge (a := k) (b := m) (by omega) (by omega))
        · refine mw_ic hX 0 dX1_workBackTo_29 rfl ?_
          refine mw_istore_n hX dX1_workBackTo_30 rfl (Nat.le_of_ble_eq_true rfl) ?_
          dsimp only [List.set]
          refine lp_dn (P := fun c => mw_G X 31 [some (.ref 0), some (.int (nI m)), some (.int (nI k)), some (.int (nI (c)))] [] mw_Y0 (lpN (fun c J => mw_up J 6 c (greatFromV J (nI c))) c (lpN (fun _ J => wbStep J) k (wb0 I))) (L) 0 0) 0 201 ?_ ?_ 0 (Nat.le_refl _) (by omega)
          · show mw_G X 31 [some (.ref 0), some (.int (nI m)), some (.int (nI k)), some (.int (nI (201)))] [] mw_Y0 (lpN (fun c J => mw_up J 6 c (greatFromV J (nI c))) 201 (lpN (fun _ J => wbStep J) k (wb0 I))) (L) 0 0
            refine mw_iload_n hX dX1_workBackTo_31 rfl rfl ?_
            refine mw_sp hX 200 dX1_workBackTo_32 rfl ?_
            refine mw_icmp_gt hX (tgt := 55) dX1_workBackTo_35 (by decide) (fun h35 => ?_) (fun h35 => ?_)
            · refine mw_aload_n hX dX1_workBackTo_55 rfl rfl ?_
              refine mw_getR hX (r := 6) dX1_workBackTo_56 (mw_Yl (by decide)) mw_YW fl_X1_28 (by decide) (by decide) rfl rfl ?_
              refine mw_ic hX 0 dX1_workBackTo_59 rfl ?_
              refine mw_aload_n hX dX1_workBackTo_60 rfl rfl ?_
              refine mw_getR hX (r := 5) dX1_workBackTo_61 (mw_Yl (by decide)) mw_YW fl_X1_25 (by decide) (by decide) rfl rfl ?_
              refine mw_ic hX 0 dX1_workBackTo_64 rfl ?_
              refine mw_sp hX 201 dX1_workBackTo_65 rfl ?_
              refine mw_copy hX (M := 201) dX1_workBackTo_68 wa_X1_165 (mw_Yl (by decide)) (mw_Yl (by decide)) rfl rfl rfl rfl rfl (by decide) (by decide) (Nat.le_of_ble_eq_true rfl) ?_
              refine mw_inc hX (nI (k + 1)) dX1_workBackTo_71 rfl (mw_inc1 _) ?_
              dsimp only [List.set]
              refine mw_goto hX (tgt := 24) dX1_workBackTo_74 (by decide) ?_
              refine mw_drop 3 ?_
              dsimp only [List.set]
              exact ihk
            · exact absurd (nI_lt (a := 200) (b := 201) (by omega) (by omega)) h35
          · intro c hsc hc ihc
            show mw_G X 31 [some (.ref 0), some (.int (nI m)), some (.int (nI k)), some (.int (nI (c)))] [] mw_Y0 (lpN (fun c J => mw_up J 6 c (greatFromV J (nI c))) c (lpN (fun _ J => wbStep J) k (wb0 I))) (L) 0 0
            refine mw_iload_n hX dX1_workBackTo_31 rfl rfl ?_
            refine mw_sp hX 200 dX1_workBackTo_32 rfl ?_
            refine mw_icmp_gt hX (tgt := 55) dX1_workBackTo_35 (by decide) (fun h35 => ?_) (fun h35 => ?_)
            · exact absurd h35 (nI_nlt (a := 200) (b := c) (by omega) (by omega))
            · refine mw_aload_n hX dX1_workBackTo_38 rfl rfl ?_
              refine mw_getR hX (r := 6) dX1_workBackTo_39 (mw_Yl (by decide)) mw_YW fl_X1_28 (by decide) (by decide) rfl rfl ?_
              refine mw_iload_n hX dX1_workBackTo_42 rfl rfl ?_
              refine mw_aload_n hX dX1_workBackTo_43 rfl rfl ?_
              refine mw_iload_n hX dX1_workBackTo_44 rfl rfl ?_
              refine mw_cV hX [_] ws_X1_125 dX1_workBackTo_45 (c_greatestFrom (mw_l X) (nI c) mn hmn _ ((congrFun ((fr_wbR (by omega)).trans ((fr_wbSs (by omega) (by omega)).trans (fr_wb0 (by omega)))) 3).trans hm) L) (mw_Yl (by decide)) mw_YW (by decide) rfl (by omega) (by omega) (by omega) (Nat.le_of_ble_eq_true rfl) ?_
              refine mw_iastore hX (j := c) dX1_workBackTo_48 (mw_Yl (by decide)) rfl rfl (by omega) (by decide) ?_
              refine mw_inc hX (nI (c + 1)) dX1_workBackTo_49 rfl (mw_inc1 _) ?_
              dsimp only [List.set]
              refine mw_goto hX (tgt := 31) dX1_workBackTo_52 (by decide) ?_
              exact ihc
    · exact absurd (nI_lt (a := 200) (b := 201) (by omega) (by omega)) h6
  · intro k hsk hk ihk
    show mw_G X 2 [some (.ref 0), some (.int (nI m)), some (.int (nI (k))), none] [] mw_Y0 (lpN (fun k J => mw_up J 5 k 0) k I) (L) 0 0
    refine mw_iload_n hX dX1_workBackTo_2 rfl rfl ?_
    refine mw_sp hX 200 dX1_workBackTo_3 rfl ?_
    refine mw_icmp_gt hX (tgt := 22) dX1_workBackTo_6 (by decide) (fun h6 => ?_) (fun h6 => ?_)
    · exact absurd h6 (nI_nlt (a := 200) (b := k) (by omega) (by omega))
    · refine mw_aload_n hX dX1_workBackTo_9 rfl rfl ?_
      refine mw_getR hX (r := 5) dX1_workBackTo_10 (mw_Yl (by decide)) mw_YW fl_X1_25 (by decide) (by decide) rfl rfl ?_
      refine mw_iload_n hX dX1_workBackTo_13 rfl rfl ?_
      refine mw_ic hX 0 dX1_workBackTo_14 rfl ?_
      refine mw_iastore hX (j := k) dX1_workBackTo_15 (mw_Yl (by decide)) rfl rfl (by omega) (by decide) ?_
      refine mw_inc hX (nI (k + 1)) dX1_workBackTo_16 rfl (mw_inc1 _) ?_
      dsimp only [List.set]
      refine mw_goto hX (tgt := 2) dX1_workBackTo_19 (by decide) ?_
      exact ihk
set_option maxRecDepth 20000 in
theorem c_gbt (l : Launch) (y : mw_Y) (b : Nat) (hP : mw_isP y b) (mn : Nat) (hmn : mn ≤ 20) (I : mw_I) (hm : I b 3 = nI mn) (L : mw_L) : ∀ (m : Nat), m ≤ 6 → ∀ (v : Int32), mw_CT l yX1_greatestByTrying (.code yX1_greatestByTrying cX1_greatestByTrying 8 (some .int)) (4 + m) 0 0 [.ref b, .int v, .int (nI (m))] (y, I, L) (.inl (some (.int (gbtV I b (m) v)), y, I, L)) := by
  intro m
  induction m with
  | zero =>
    intro h6 v
    refine mw_enter RX1 rfl (by decide +kernel) (mw_cat rfl) (Nat.le_of_ble_eq_true rfl) (fun X hX hl hE hT hnm => ?_)
    subst hl
    show mw_G X 0 [some (.ref b), some (.int v), some (.int (nI 0)), none, none, none, none, none] [] y I L 0 0
    refine mw_iload_n hX dX1_greatestByTrying_0 rfl rfl ?_
    refine mw_ic hX 1 dX1_greatestByTrying_1 rfl ?_
    refine mw_icmp_lt hX (tgt := 11) dX1_greatestByTrying_2 (by decide) (fun h2 => ?_) (fun h2 => ?_)
    · refine mw_ic hX 0 dX1_greatestByTrying_11 rfl ?_
      exact mw_ireturn hX hE dX1_greatestByTrying_12 (rfl) (by omega) (by omega)
    · exact absurd (nI_lt (a := 0) (b := 1) (by omega) (by omega)) h2
  | succ m ih9 =>
    intro h6 v
    have ih0 := ih9 (by omega)
    clear ih9
    refine mw_enter RX1 rfl (by decide +kernel) (mw_cat rfl) (Nat.le_of_ble_eq_true rfl) (fun X hX hl hE hT hnm => ?_)
    subst hl
    show mw_G X 0 [some (.ref b), some (.int v), some (.int (nI (m + 1))), none, none, none, none, none] [] y I L 0 0
    refine mw_iload_n hX dX1_greatestByTrying_0 rfl rfl ?_
    refine mw_ic hX 1 dX1_greatestByTrying_1 rfl ?_
    refine mw_icmp_lt hX (tgt := 11) dX1_greatestByTrying_2 (by decide) (fun h2 => ?_) (fun h2 => ?_)
    · exact absurd h2 (nI_nlt (a := m + 1) (b := 1) (by omega) (by omega))
    · refine mw_iload_n hX dX1_greatestByTrying_5 rfl rfl ?_
      refine mw_bp hX 6 dX1_greatestByTrying_6 rfl ?_
      refine mw_icmp_le hX (tgt := 13) dX1_greatestByTrying_8 (by decide) (fun h8 => ?_) (fun h8 => ?_)
      · refine mw_iload_n hX dX1_greatestByTrying_13 rfl rfl ?_
        refine mw_aload_n hX dX1_greatestByTrying_14 rfl rfl ?_
        refine mw_getI hX dX1_greatestByTrying_15 hP.l0 hP.s0 fl_X1_50 (by decide) (by decide) rfl ?_
        refine mw_iadd hX dX1_greatestByTrying_18 ?_
        refine mw_istore_n hX dX1_greatestByTrying_19 rfl (Nat.le_of_ble_eq_true rfl) ?_
        dsimp only [List.set]
        refine mw_ic hX 0 dX1_greatestByTrying_20 rfl ?_
        refine mw_istore hX dX1_greatestByTrying_21 (Nat.le_of_ble_eq_true rfl) ?_
        dsimp only [List.set]
        refine mw_aload_n hX dX1_greatestByTrying_23 rfl rfl ?_
        refine mw_iload_n hX dX1_greatestByTrying_24 rfl rfl ?_
        refine mw_cV hX [_] ws_X1_174 dX1_greatestByTrying_25 (c_leastRelease (mw_l X) y b hP (v + I b 4) I L) hP.l0 hP.s0 (by decide) rfl (by omega) (by omega) (by omega) (Nat.le_of_ble_eq_true rfl) ?_
        obtain ⟨hL1, hL4⟩ := least_N hm hmn (v + I b 4)
        obtain ⟨f0, hf0⟩ : ∃ f0, leastN I b (v + I b 4) = f0 := ⟨_, rfl⟩
        rw [hf0] at hL1 hL4
        rw [hL1]
        refine mw_istore hX dX1_greatestByTrying_28 (Nat.le_of_ble_eq_true rfl) ?_
        dsimp only [List.set]
        refine mw_iload hX dX1_greatestByTrying_30 rfl ?_
        refine mw_istore hX dX1_greatestByTrying_32 (Nat.le_of_ble_eq_true rfl) ?_
        dsimp only [List.set]
        have key : ∀ (n j : Nat) (s : Int32), j + n = 5 → gF I b (v + I b 4) (gbtV I b m) n j s = gbtV I b (m + 1) v → mw_G X 34 [some (.ref b), some (.int v), some (.int (nI (m + 1))), some (.int (v + I b 4)), some (.int s), some (.int (nI (4 * f0))), some (.int (nI (4 * j))), none] [] y I L 0 0 := by
          intro n
          induction n with
          | zero =>
            intro j s hj hR
            refine mw_iload hX dX1_greatestByTrying_34 rfl ?_
            refine mw_bp hX 16 dX1_greatestByTrying_36 rfl ?_
            refine mw_icmp_gt hX (tgt := 86) dX1_greatestByTrying_38 (by decide) (fun h38 => ?_) (fun h38 => ?_)
            · refine mw_iload hX dX1_greatestByTrying_86 rfl ?_
              exact mw_ireturn hX hE dX1_greatestByTrying_88 (by rw [← hR]; rfl) (by omega) (by omega)
            · exact absurd (nI_lt (a := 16) (b := 4 * j) (by omega) (by omega)) h38
          | succ n ih =>
            intro j s hj hR
            refine mw_iload hX dX1_greatestByTrying_34 rfl ?_
            refine mw_bp hX 16 dX1_greatestByTrying_36 rfl ?_
            refine mw_icmp_gt hX (tgt := 86) dX1_greatestByTrying_38 (by decide) (fun h38 => ?_) (fun h38 => ?_)
            · refine mw_iload hX dX1_greatestByTrying_86 rfl ?_
              exact mw_ireturn hX hE dX1_greatestByTrying_88 (by rw [← hR, gF, if_pos (Or.inl h38)]) (by omega) (by omega)
            · refine mw_iload hX dX1_greatestByTrying_41 rfl ?_
              refine mw_iload_n hX dX1_greatestByTrying_43 rfl rfl ?_
              refine mw_icmp_gt hX (tgt := 86) dX1_greatestByTrying_44 (by decide) (fun h44 => ?_) (fun h44 => ?_)
              · refine mw_iload hX dX1_greatestByTrying_86 rfl ?_
                exact mw_ireturn hX hE dX1_greatestByTrying_88 (by rw [← hR, gF, if_pos (Or.inr h44)]) (by omega) (by omega)
              · refine mw_aload_n hX dX1_greatestByTrying_47 rfl rfl ?_
                refine mw_aload_n hX dX1_greatestByTrying_48 rfl rfl ?_
                refine mw_iload_n hX dX1_greatestByTrying_49 rfl rfl ?_
                refine mw_iload hX dX1_greatestByTrying_50 rfl ?_
                refine mw_cV hX [_, _] ws_X1_177 dX1_greatestByTrying_52 (c_levelBehind (mw_l X) y b hP (v + I b 4) _ I L) hP.l0 hP.s0 (by decide) rfl (by omega) (by omega) (by omega) (Nat.le_of_ble_eq_true rfl) ?_
                refine mw_iload_n hX dX1_greatestByTrying_55 rfl rfl ?_
                refine mw_ic hX 1 dX1_greatestByTrying_56 rfl ?_
                refine mw_isub hX dX1_greatestByTrying_57 ?_
                rw [nI_pred]
                refine mw_cS hX [_, _, _] ws_X1_128 dX1_greatestByTrying_58 (ih0 _) rfl (by omega) (by omega) (by omega) (Nat.le_of_ble_eq_true rfl) ?_
                refine mw_istore hX dX1_greatestByTrying_61 (Nat.le_of_ble_eq_true rfl) ?_
                dsimp only [List.set]
                refine mw_iload hX dX1_greatestByTrying_63 rfl ?_
                refine mw_aload_n hX dX1_greatestByTrying_65 rfl rfl ?_
                refine mw_iload_n hX dX1_greatestByTrying_66 rfl rfl ?_
                refine mw_iload hX dX1_greatestByTrying_67 rfl ?_
                refine mw_cV hX [_, _] ws_X1_180 dX1_greatestByTrying_69 (c_energyAt (mw_l X) y b hP (v + I b 4) _ I L) hP.l0 hP.s0 (by decide) rfl (by omega) (by omega) (by omega) (Nat.le_of_ble_eq_true rfl) ?_
                refine mw_iload hX dX1_greatestByTrying_72 rfl ?_
                refine mw_iadd hX dX1_greatestByTrying_74 ?_
                refine mw_cS hX [_, _] ws_X1_183 dX1_greatestByTrying_75 (c_max (mw_l X) s _ y I L) rfl (by omega) (by omega) (by omega) (Nat.le_of_ble_eq_true rfl) ?_
                refine mw_istore hX dX1_greatestByTrying_78 (Nat.le_of_ble_eq_true rfl) ?_
                dsimp only [List.set]
                refine mw_inc hX (nI (4 * (j + 1))) dX1_greatestByTrying_80 rfl (mw_4' _) ?_
                dsimp only [List.set]
                refine mw_goto hX (tgt := 34) dX1_greatestByTrying_83 (by decide) ?_
                refine mw_drop 7 ?_
                dsimp only [List.set]
                exact ih (j + 1) _ (by omega) (by rw [← hR]; exact (if_neg (fun q => q.elim h38 h44)).symm)
        exact key (5 - f0) f0 0 (by omega) (by rw [gbtV, hf0])
      · exact absurd (nI_le (a := m + 1) (b := 6) (by omega) (by omega)) h8
set_option maxRecDepth 20000 in
theorem c_bestEnergyX (l : Launch) (q : Int32) (h : ¬ okR q 1 6) (I : mw_I) (L : mw_L) : mw_CT l yX1_bestEnergy (.code yX1_bestEnergy cX1_bestEnergy 2 (some .int)) 12 1 6 [.ref 0, .int q] (mw_Y0, I, L) (.inr "java/lang/IllegalArgumentException") := by
  refine mw_enter RX1 rfl (by decide +kernel) (mw_cat rfl) (Nat.le_of_ble_eq_true rfl) (fun X hX hl hE hT hnm => ?_)
  subst hl
  show mw_G X 0 [some (.ref 0), some (.int q)] [] mw_Y0 I L 0 0
  refine mw_iload_n hX dX1_bestEnergy_0 rfl rfl ?_
  refine mw_ic hX 1 dX1_bestEnergy_1 rfl ?_
  refine mw_bp hX 6 dX1_bestEnergy_2 rfl ?_
  exact mw_cSX hX hE hT [_, _, _] ws_X1_36 dX1_bestEnergy_4 (c_checkRangeX (mw_l X) q 1 6 h mw_Y0 I L) rfl (by omega) (by omega) (by omega) (Nat.le_of_ble_eq_true rfl) (rfl) (by omega) (by omega)
set_option maxRecDepth 20000 in
theorem c_bestEnergyByAllX (l : Launch) (q : Int32) (h : ¬ okR q 1 6) (I : mw_I) (L : mw_L) : mw_CT l yX1_bestEnergyByAll (.code yX1_bestEnergyByAll cX1_bestEnergyByAll 2 (some .int)) 12 1 6 [.ref 0, .int q] (mw_Y0, I, L) (.inr "java/lang/IllegalArgumentException") := by
  refine mw_enter RX1 rfl (by decide +kernel) (mw_cat rfl) (Nat.le_of_ble_eq_true rfl) (fun X hX hl hE hT hnm => ?_)
  subst hl
  show mw_G X 0 [some (.ref 0), some (.int q)] [] mw_Y0 I L 0 0
  refine mw_iload_n hX dX1_bestEnergyByAll_0 rfl rfl ?_
  refine mw_ic hX 1 dX1_bestEnergyByAll_1 rfl ?_
  refine mw_bp hX 6 dX1_bestEnergyByAll_2 rfl ?_
  exact mw_cSX hX hE hT [_, _, _] ws_X1_36 dX1_bestEnergyByAll_4 (c_checkRangeX (mw_l X) q 1 6 h mw_Y0 I L) rfl (by omega) (by omega) (by omega) (Nat.le_of_ble_eq_true rfl) (rfl) (by omega) (by omega)
set_option maxRecDepth 20000 in
theorem c_bestReleaseX (l : Launch) (q : Int32) (h : ¬ okR q 1 6) (I : mw_I) (L : mw_L) : mw_CT l yX1_bestRelease (.code yX1_bestRelease cX1_bestRelease 2 (some .int)) 12 1 6 [.ref 0, .int q] (mw_Y0, I, L) (.inr "java/lang/IllegalArgumentException") := by
  refine mw_enter RX1 rfl (by decide +kernel) (mw_cat rfl) (Nat.le_of_ble_eq_true rfl) (fun X hX hl hE hT hnm => ?_)
  subst hl
  show mw_G X 0 [some (.ref 0), some (.int q)] [] mw_Y0 I L 0 0
  refine mw_iload_n hX dX1_bestRelease_0 rfl rfl ?_
  refine mw_ic hX 1 dX1_bestRelease_1 rfl ?_
  refine mw_bp hX 6 dX1_bestRelease_2 rfl ?_
  exact mw_cSX hX hE hT [_, _, _] ws_X1_36 dX1_bestRelease_4 (c_checkRangeX (mw_l X) q 1 6 h mw_Y0 I L) rfl (by omega) (by omega) (by omega) (Nat.le_of_ble_eq_true rfl) (rfl) (by omega) (by omega)
set_option maxRecDepth 20000 in
theorem c_bestEnergy (l : Launch) (m : Nat) (h6 : m < 6) (mn : Nat) (hmn : mn ≤ 20) (I : mw_I) (hm : I (7 + 11 * 0) 3 = nI mn) (L : mw_L) : mw_CT l yX1_bestEnergy (.code yX1_bestEnergy cX1_bestEnergy 2 (some .int)) 12 1 6 [.ref 0, .int (nI (m + 1))] (mw_Y0, I, L) (.inl (some (.int (greatFromV (wbI m I) (waterV (wbI m I) (7 + 11 * 0)))), mw_Y0, wbI m I, L)) := by
  refine mw_enter RX1 rfl (by decide +kernel) (mw_cat rfl) (Nat.le_of_ble_eq_true rfl) (fun X hX hl hE hT hnm => ?_)
  subst hl
  show mw_G X 0 [some (.ref 0), some (.int (nI (m + 1)))] [] mw_Y0 I L 0 0
  refine mw_iload_n hX dX1_bestEnergy_0 rfl rfl ?_
  refine mw_ic hX 1 dX1_bestEnergy_1 rfl ?_
  refine mw_bp hX 6 dX1_bestEnergy_2 rfl ?_
  refine mw_cS hX [_, _, _] ws_X1_36 dX1_bestEnergy_4 (c_checkRange (mw_l X) (nI (m + 1)) 1 6 ⟨nI_nlt (a := m + 1) (b := 1) (by omega) (by omega), nI_le (a := m + 1) (b := 6) (by omega) (by decide)⟩ mw_Y0 I L) rfl (by omega) (by omega) (by omega) (Nat.le_of_ble_eq_true rfl) ?_
  refine mw_aload_n hX dX1_bestEnergy_7 rfl rfl ?_
  refine mw_iload_n hX dX1_bestEnergy_8 rfl rfl ?_
  refine mw_ic hX 1 dX1_bestEnergy_9 rfl ?_
  refine mw_isub hX dX1_bestEnergy_10 ?_
  rw [nI_pred]
  refine mw_cV hX [_] ws_X1_122 dX1_bestEnergy_11 (c_workBackTo (mw_l X) m (by omega) mn hmn I hm L) (mw_Yl (by decide)) mw_YW (by decide) rfl (by omega) (by omega) (by omega) (Nat.le_of_ble_eq_true rfl) ?_
  refine mw_aload_n hX dX1_bestEnergy_14 rfl rfl ?_
  refine mw_aload_n hX dX1_bestEnergy_15 rfl rfl ?_
  refine mw_getR hX (r := 1) dX1_bestEnergy_16 (mw_Yl (by decide)) mw_YW fl_X1_11 (by decide) (by decide) rfl rfl ?_
  refine mw_ic hX 0 dX1_bestEnergy_19 rfl ?_
  refine mw_aaloadP hX (j := 0) dX1_bestEnergy_20 (mw_Yl (by decide)) rfl rfl (by decide) (by decide) (mw_Yp (by omega)) ?_
  refine mw_cV hX [] ws_X1_90 dX1_bestEnergy_21 (c_waterInPond (mw_l X) mw_Y0 _ (mw_P0 (i := 0) (by omega)) _ L) (mw_P0 (i := 0) (by omega)).l0 (mw_P0 (i := 0) (by omega)).s0 (by decide) rfl (by omega) (by omega) (by omega) (Nat.le_of_ble_eq_true rfl) ?_
  refine mw_cV hX [_] ws_X1_125 dX1_bestEnergy_24 (c_greatestFrom (mw_l X) _ mn hmn _ ((congrFun (fr_wb (by omega) (by omega)) 3).trans hm) L) (mw_Yl (by decide)) mw_YW (by decide) rfl (by omega) (by omega) (by omega) (Nat.le_of_ble_eq_true rfl) ?_
  exact mw_ireturn hX hE dX1_bestEnergy_27 (rfl) (by omega) (by omega)
set_option maxRecDepth 20000 in
theorem c_bestEnergyByAll (l : Launch) (m : Nat) (h6 : m < 6) (mn : Nat) (hmn : mn ≤ 20) (I : mw_I) (hm : I (7 + 11 * 0) 3 = nI mn) (L : mw_L) : mw_CT l yX1_bestEnergyByAll (.code yX1_bestEnergyByAll cX1_bestEnergyByAll 2 (some .int)) 12 1 6 [.ref 0, .int (nI (m + 1))] (mw_Y0, I, L) (.inl (some (.int (gbtV I (7 + 11 * 0) (m + 1) (waterV I (7 + 11 * 0)))), mw_Y0, I, L)) := by
  refine mw_enter RX1 rfl (by decide +kernel) (mw_cat rfl) (Nat.le_of_ble_eq_true rfl) (fun X hX hl hE hT hnm => ?_)
  subst hl
  show mw_G X 0 [some (.ref 0), some (.int (nI (m + 1)))] [] mw_Y0 I L 0 0
  refine mw_iload_n hX dX1_bestEnergyByAll_0 rfl rfl ?_
  refine mw_ic hX 1 dX1_bestEnergyByAll_1 rfl ?_
  refine mw_bp hX 6 dX1_bestEnergyByAll_2 rfl ?_
  refine mw_cS hX [_, _, _] ws_X1_36 dX1_bestEnergyByAll_4 (c_checkRange (mw_l X) (nI (m + 1)) 1 6 ⟨nI_nlt (a := m + 1) (b := 1) (by omega) (by omega), nI_le (a := m + 1) (b := 6) (by omega) (by decide)⟩ mw_Y0 I L) rfl (by omega) (by omega) (by omega) (Nat.le_of_ble_eq_true rfl) ?_
  refine mw_aload_n hX dX1_bestEnergyByAll_7 rfl rfl ?_
  refine mw_getR hX (r := 1) dX1_bestEnergyByAll_8 (mw_Yl (by decide)) mw_YW fl_X1_11 (by decide) (by decide) rfl rfl ?_
  refine mw_ic hX 0 dX1_bestEnergyByAll_11 rfl ?_
  refine mw_aaloadP hX (j := 0) dX1_bestEnergyByAll_12 (mw_Yl (by decide)) rfl rfl (by decide) (by decide) (mw_Yp (by omega)) ?_
  refine mw_aload_n hX dX1_bestEnergyByAll_13 rfl rfl ?_
  refine mw_getR hX (r := 1) dX1_bestEnergyByAll_14 (mw_Yl (by decide)) mw_YW fl_X1_11 (by decide) (by decide) rfl rfl ?_
  refine mw_ic hX 0 dX1_bestEnergyByAll_17 rfl ?_
  refine mw_aaloadP hX (j := 0) dX1_bestEnergyByAll_18 (mw_Yl (by decide)) rfl rfl (by decide) (by decide) (mw_Yp (by omega)) ?_
  refine mw_cV hX [] ws_X1_90 dX1_bestEnergyByAll_19 (c_waterInPond (mw_l X) mw_Y0 _ (mw_P0 (i := 0) (by omega)) _ L) (mw_P0 (i := 0) (by omega)).l0 (mw_P0 (i := 0) (by omega)).s0 (by decide) rfl (by omega) (by omega) (by omega) (Nat.le_of_ble_eq_true rfl) ?_
  refine mw_iload_n hX dX1_bestEnergyByAll_22 rfl rfl ?_
  refine mw_cS hX [_, _, _] ws_X1_128 dX1_bestEnergyByAll_23 (c_gbt (mw_l X) mw_Y0 _ (mw_P0 (i := 0) (by omega)) mn hmn I hm L (m + 1) (by omega) _) rfl (by omega) (by omega) (by omega) (Nat.le_of_ble_eq_true rfl) ?_
  exact mw_ireturn hX hE dX1_bestEnergyByAll_26 (rfl) (by omega) (by omega)
set_option maxRecDepth 20000 in
theorem c_bestRelease (l : Launch) (m : Nat) (h6 : m < 6) (mn : Nat) (hmn : mn ≤ 20) (I : mw_I) (hm : I (7 + 11 * 0) 3 = nI mn) (L : mw_L) : mw_CT l yX1_bestRelease (.code yX1_bestRelease cX1_bestRelease 2 (some .int)) 12 1 6 [.ref 0, .int (nI (m + 1))] (mw_Y0, I, L) (.inl (some (.int (leastBestV (wbI m I) (waterV (wbI m I) (7 + 11 * 0) + wbI m I (7 + 11 * 0) 4))), mw_Y0, wbI m I, L)) := by
  refine mw_enter RX1 rfl (by decide +kernel) (mw_cat rfl) (Nat.le_of_ble_eq_true rfl) (fun X hX hl hE hT hnm => ?_)
  subst hl
  show mw_G X 0 [some (.ref 0), some (.int (nI (m + 1)))] [] mw_Y0 I L 0 0
  refine mw_iload_n hX dX1_bestRelease_0 rfl rfl ?_
  refine mw_ic hX 1 dX1_bestRelease_1 rfl ?_
  refine mw_bp hX 6 dX1_bestRelease_2 rfl ?_
  refine mw_cS hX [_, _, _] ws_X1_36 dX1_bestRelease_4 (c_checkRange (mw_l X) (nI (m + 1)) 1 6 ⟨nI_nlt (a := m + 1) (b := 1) (by omega) (by omega), nI_le (a := m + 1) (b := 6) (by omega) (by decide)⟩ mw_Y0 I L) rfl (by omega) (by omega) (by omega) (Nat.le_of_ble_eq_true rfl) ?_
  refine mw_aload_n hX dX1_bestRelease_7 rfl rfl ?_
  refine mw_iload_n hX dX1_bestRelease_8 rfl rfl ?_
  refine mw_ic hX 1 dX1_bestRelease_9 rfl ?_
  refine mw_isub hX dX1_bestRelease_10 ?_
  rw [nI_pred]
  refine mw_cV hX [_] ws_X1_122 dX1_bestRelease_11 (c_workBackTo (mw_l X) m (by omega) mn hmn I hm L) (mw_Yl (by decide)) mw_YW (by decide) rfl (by omega) (by omega) (by omega) (Nat.le_of_ble_eq_true rfl) ?_
  refine mw_aload_n hX dX1_bestRelease_14 rfl rfl ?_
  refine mw_aload_n hX dX1_bestRelease_15 rfl rfl ?_
  refine mw_getR hX (r := 1) dX1_bestRelease_16 (mw_Yl (by decide)) mw_YW fl_X1_11 (by decide) (by decide) rfl rfl ?_
  refine mw_ic hX 0 dX1_bestRelease_19 rfl ?_
  refine mw_aaloadP hX (j := 0) dX1_bestRelease_20 (mw_Yl (by decide)) rfl rfl (by decide) (by decide) (mw_Yp (by omega)) ?_
  refine mw_cV hX [] ws_X1_90 dX1_bestRelease_21 (c_waterInPond (mw_l X) mw_Y0 _ (mw_P0 (i := 0) (by omega)) _ L) (mw_P0 (i := 0) (by omega)).l0 (mw_P0 (i := 0) (by omega)).s0 (by decide) rfl (by omega) (by omega) (by omega) (Nat.le_of_ble_eq_true rfl) ?_
  refine mw_aload_n hX dX1_bestRelease_24 rfl rfl ?_
  refine mw_getR hX (r := 1) dX1_bestRelease_25 (mw_Yl (by decide)) mw_YW fl_X1_11 (by decide) (by decide) rfl rfl ?_
  refine mw_ic hX 0 dX1_bestRelease_28 rfl ?_
  refine mw_aaloadP hX (j := 0) dX1_bestRelease_29 (mw_Yl (by decide)) rfl rfl (by decide) (by decide) (mw_Yp (by omega)) ?_
  refine mw_getI hX dX1_bestRelease_30 (mw_P0 (i := 0) (by omega)).l0 (mw_P0 (i := 0) (by omega)).s0 fl_X1_50 (by decide) (by decide) rfl ?_
  refine mw_iadd hX dX1_bestRelease_33 ?_
  refine mw_cV hX [_] ws_X1_132 dX1_bestRelease_34 (c_leastBestRelease (mw_l X) _ mn hmn _ ((congrFun (fr_wb (by omega) (by omega)) 3).trans hm) L) (mw_Yl (by decide)) mw_YW (by decide) rfl (by omega) (by omega) (by omega) (Nat.le_of_ble_eq_true rfl) ?_
  exact mw_ireturn hX hE dX1_bestRelease_37 (rfl) (by omega) (by omega)
