/-! what the law's own loop keeps -/
theorem fl_plant {C : mw_I} {p h t : Nat} (hp : p < 3) (hC : ∀ i, i < 3 → C (7 + 11 * i) 14 ≤ 16) : ∀ i, i < 3 → runPlantI C p h t (7 + 11 * i) 14 ≤ 16 := by
  intro i hi
  by_cases e : i = p
  · subst e
    have h1 : runPlantI C i h t (7 + 11 * i) = spillI (letGoI (rcvI C (7 + 11 * i) h) (7 + 11 * i)) (7 + 11 * i) (7 + 11 * i) := fr_sends (Nat.le_refl 2) (by omega) (by omega)
    rw [h1, fr_spillj (by decide), lg_14]
    split
    · exact Int32.le_refl 16
    · rename_i g
      exact Int32.not_lt.mp g
  · rw [fr_run1 (by omega) (by omega) (by omega) (by omega) (by omega) (by omega) (by omega) (by omega) (by omega)]
    exact hC i hi
theorem fl_run {C : mw_I} {tt : Nat → Nat} {h q : Nat} (hC : ∀ i, i < 3 → C (7 + 11 * i) 14 ≤ 16) : ∀ i, i < 3 → runI tt h q C (7 + 11 * i) 14 ≤ 16 := by
  refine lpN_inv (P := fun (J : mw_I) => ∀ i, i < 3 → J (7 + 11 * i) 14 ≤ 16) q (fun k _ z hz => ?_) hC
  intro i hi
  have h3 := lpN_inv (P := fun (J : mw_I) => ∀ i, i < 3 → J (7 + 11 * i) 14 ≤ 16) (f := fun i J => runPlantI J i (h + k) (tt i)) 3 (fun p hp y hy => fl_plant hp hy) hz
  unfold hourI
  rw [mw_up_ne (by omega)]
  exact h3 i hi
def lpI (k : Nat) (I : mw_I) : Prop := (∃ M, rel2 I M) ∧ (∀ i, i < 3 → I (7 + 11 * i) 14 ≤ 16) ∧ ∃ h, k ≤ h ∧ h ≤ 4 * k ∧ I 0 6 = nI h
section
variable {k i o a c q : Nat} {I : mw_I}
theorem lp_fld {f m b : Nat} (hq : (f, m) ∈ rF) (hf : f ≠ 14) (hb : ∀ r ∈ rB, r.1 = m → b ≤ r.2) (hi : i < 3) (ha : a ≤ b) (h : lpI k I) : lpI k (mw_up I (7 + 11 * i) f (nI a)) := by
  obtain ⟨⟨M, hM⟩, hF, e, h1, h2, h3⟩ := h
  refine ⟨⟨_, rel2_fld hq (fun r hr e => ⟨a, Nat.le_trans ha (hb r hr e), rfl⟩) hi hM⟩, fun j hj => ?_, e, h1, h2, ?_⟩
  · rw [mw_up_ap, if_neg (fun z => hf z.2.symm)]
    exact hF j hj
  · rw [mw_up_ne (by omega)]
    exact h3
theorem lp_inf (hi : i < 3) (ha : a ≤ 50) (hc : c ≤ 100) (h : lpI k I) : lpI k (mw_up (mw_up I (7 + 11 * i) 4 (nI a)) (7 + 11 * i) 5 (nI c)) := lp_fld (m := 45) (b := 100) (by decide) (by decide) (by decide) hi hc (lp_fld (m := 44) (b := 50) (by decide) (by decide) (by decide) hi ha h)
theorem lp_min (hi : i < 3) (ha : a ≤ 20) (h : lpI k I) : lpI k (mw_up I (7 + 11 * i) 3 (nI a)) := lp_fld (m := 46) (b := 20) (by decide) (by decide) (by decide) hi ha h
theorem lp_ord (hi : i < 3) (ho : o < 2) (ha : a ≤ 30) (h : lpI k I) : lpI k (mw_up I ((7 + 11 * i) + 1) o (nI a)) := by
  obtain ⟨⟨M, hM⟩, hF, e, h1, h2, h3⟩ := h
  refine ⟨⟨_, rel2_of hM (relA_ord hi ho ha rfl) (by rw [mw_up_ne (by omega)]) (by rw [mw_up_ne (by omega)]) (fun i2 hi2 o2 ho2 => mw_up_ne (by omega)) (mw_up_ne (by omega))⟩, fun j hj => ?_, e, h1, h2, ?_⟩
  · rw [mw_up_ne (by omega)]
    exact hF j hj
  · rw [mw_up_ne (by omega)]
    exact h3
theorem lp_A (h : lpI k I) : ∃ M, relA I M := by
  obtain ⟨⟨M, e, -, -, -, hP⟩, -⟩ := h
  exact ⟨M, hP.1⟩
theorem lp_v4 (hi : i < 3) (h : lpI k I) : ∃ v, v ≤ 50 ∧ I (7 + 11 * i) 4 = nI v := by
  obtain ⟨M, hA⟩ := lp_A h
  obtain ⟨v, hv, ev⟩ := hA.bF i hi (44, 50) (by decide)
  exact ⟨v, hv, (hA.F i hi (4, 44) (by decide)).trans ev⟩
theorem lp_v3 (hi : i < 3) (h : lpI k I) : ∃ v, v ≤ 20 ∧ I (7 + 11 * i) 3 = nI v := by
  obtain ⟨M, hA⟩ := lp_A h
  obtain ⟨v, hv, ev⟩ := hA.bF i hi (46, 20) (by decide)
  exact ⟨v, hv, (hA.F i hi (3, 46) (by decide)).trans ev⟩
theorem lp_v1 (hi : i < 3) (ho : o < 2) (h : lpI k I) : ∃ v, v ≤ 30 ∧ I ((7 + 11 * i) + 1) o = nI v := by
  obtain ⟨M, hA⟩ := lp_A h
  obtain ⟨v, hv, ev⟩ := hA.bO (2 * i + o) (by omega)
  exact ⟨v, hv, (hA.O i hi o ho).1.trans ev⟩
theorem lp_w (hi : i < 3) (h : lpI k I) : ∃ w, w ≤ 100 ∧ waterV I (7 + 11 * i) = nI w := by
  obtain ⟨M, hA⟩ := lp_A h
  obtain ⟨w, hw, ew⟩ := hA.bW i hi
  refine ⟨w, hw, ?_⟩
  rw [← ew]
  unfold waterV filledV
  rw [(hA.O i hi 0 (by decide)).2, (hA.O i hi 1 (by decide)).2]
  rfl
theorem lp_run (hk : k < 24) (hq0 : 1 ≤ q) (hq : q ≤ 4) (h : lpI k I) : ∃ (tt : Nat → Nat) (e : Nat), e + q ≤ 200 ∧ I 0 6 = nI e ∧ (∀ i, i < 3 → tt i < 6 ∧ I (7 + 11 * i) 2 = nI (tt i)) ∧ k < e + q ∧ lpI (k + 1) (runI tt e q I) := by
  obtain ⟨⟨M, e, he, hH, hH2, hP⟩, hF, e2, h1, h2, h3⟩ := h
  have e3 : e2 = e := (nI_eq (by omega) (by omega)).mp (h3.symm.trans hH)
  subst e3
  have htt : ∃ tt : Nat → Nat, ∀ i, i < 3 → tt i < 6 ∧ M 43 i = nI (tt i) := by
    refine ⟨fun i => (M 43 i).toNatClampNeg, fun i hi => ?_⟩
    obtain ⟨v, hv, ev⟩ := hP.1.bF i hi (43, 5) (by decide)
    dsimp only at hv ev
    show (M 43 i).toNatClampNeg < 6 ∧ M 43 i = nI (M 43 i).toNatClampNeg
    rw [ev, nI_clamp (by omega)]
    exact ⟨by omega, rfl⟩
  obtain ⟨tt, htt⟩ := htt
  have ht2 : ∀ i, i < 3 → tt i < 6 ∧ I (7 + 11 * i) 2 = nI (tt i) := fun i hi => ⟨(htt i hi).1, (hP.1.F i hi (2, 43) (by decide)).trans (htt i hi).2⟩
  have fin := hoursP (tt := tt) (fun i hi => (htt i hi).1) hP q (by omega)
  have hJ : runI tt e2 q I 0 6 = nI (e2 + q) := hours_h hH q
  exact ⟨tt, e2, by omega, hH, ht2, by omega, ⟨_, e2 + q, by omega, hJ, mhours_h hH2 q, fin⟩, fl_run hF, e2 + q, by omega, by omega, hJ⟩
end
theorem lp_first : lpI 0 wcI := by
  refine ⟨⟨moI wcI, rel2_cong (fun a ha _ _ => (fm_C ha).symm) (fun _ _ _ => rfl) rfl first⟩, fun i hi => ?_, 0, Nat.le_refl _, Nat.le_refl _, ?_⟩
  · have h : ∀ i, i < 3 → wcI (7 + 11 * i) 14 ≤ 16 := by decide +kernel
    exact h i hi
  · decide +kernel
