/-! an hour, and hours, keep the relation; run -/
theorem shiftP {C M : mw_I} {h : Nat} (hh : h < 200) (hr : relP C M h 3) : relP C M (h + 1) 0 := by
  obtain ⟨hA, h10, h11, h12, h13⟩ := hr
  refine ⟨hA, fun i hi o ho j hj => ?_, fun i hi o ho k hk hz => ?_, fun i hi j hj => ?_, fun i hi o ho => absurd hi (Nat.not_lt_zero i)⟩
  · by_cases e : j = 5
    · subst e
      have a := h10 i hi o ho 0 (by decide)
      have z : M 50 (210 * (2 * i + o) + (h + 0)) = 0 := h13 i hi o ho
      rw [show (h + 1 + 5) % 6 = (h + 0) % 6 by omega, a, z]
      exact (h11 i hi o ho (h + 1 + 5) (by omega) (Or.inr (by omega))).symm
    · have a := h10 i hi o ho (j + 1) (by omega)
      rw [show h + 1 + j = h + (j + 1) by omega]
      exact a
  · by_cases e : k = h
    · subst e
      exact h13 i hi o ho
    · exact h11 i hi o ho k hk (by omega)
  · by_cases e : j = 5
    · subst e
      refine ⟨0, Nat.zero_le _, ?_⟩
      rw [h11 i hi 0 (by decide) (h + 1 + 5) (by omega) (Or.inr (by omega)), h11 i hi 1 (by decide) (h + 1 + 5) (by omega) (Or.inr (by omega))]
      rfl
    · obtain ⟨u, hu, eu⟩ := h12 i hi (j + 1) (by omega)
      rw [if_pos (by omega)] at hu
      refine ⟨u, Nat.le_trans hu (Nat.mul_le_mul_right _ ?_), ?_⟩
      · split <;> omega
      · rw [show h + 1 + j = h + (j + 1) by omega]
        exact eu
theorem stepsP {C M : mw_I} {h : Nat} {tt : Nat → Nat} (hh : h < 200) (ht : ∀ i, i < 3 → tt i < 6) (hr : relP C M h 0) : ∀ p, p ≤ 3 → relP (lpN (fun i J => runPlantI J i h (tt i)) p C) (lpN (fun i J => worksI J i h (tt i)) p M) h p := by
  intro p
  induction p with
  | zero => intro _; exact hr
  | succ p ih =>
    intro hp
    exact step3 (by omega) hh (ht p (by omega)) (ih (by omega))
theorem hourP {C M : mw_I} {h : Nat} {tt : Nat → Nat} (hh : h < 200) (ht : ∀ i, i < 3 → tt i < 6) (hr : relP C M h 0) : relP (hourI tt h C) (mhourI tt h M) (h + 1) 0 := by
  refine shiftP hh (relP_cong (fun a ha h0 _ _ => ?_) (fun a h1 h2 => ?_) (stepsP hh ht hr 3 (Nat.le_refl 3)))
  · unfold hourI
    rw [mw_up_ne h0]
  · unfold mhourI
    exact mw_up_ne (by omega)
theorem hoursP {C M : mw_I} {h : Nat} {tt : Nat → Nat} (ht : ∀ i, i < 3 → tt i < 6) (hr : relP C M h 0) : ∀ n, h + n ≤ 200 → relP (lpN (fun k J => hourI tt (h + k) J) n C) (lpN (fun k J => mhourI tt (h + k) J) n M) (h + n) 0 := by
  intro n
  induction n with
  | zero => intro _; exact hr
  | succ n ih =>
    intro hn
    exact hourP (by omega) ht (ih (by omega))
theorem fr_run2 {C : mw_I} {p h t a : Nat} (hp : p < 3) (ha : 40 ≤ a) : runPlantI C p h t a = C a := by
  by_cases e : p + 1 < 3
  · exact fr_run1 (by omega) (by omega) (by omega) (by omega) (by omega) (by omega) (by omega) (by omega) (by omega)
  · show sndI (spillI (letGoI (rcvI C (7 + 11 * p) h) (7 + 11 * p)) (7 + 11 * p)) p h t a = C a
    rw [sn_ne e (by omega), fr_spill (by omega) (by omega) (by omega), fr_go (by omega) (by omega) (by omega)]
    exact fr_recvs (Nat.le_refl 2) (by omega) (by omega) (by omega)
theorem fr_runI {C : mw_I} {tt : Nat → Nat} {h q a : Nat} (ha : 40 ≤ a) : runI tt h q C a = C a := by
  refine lpN_inv (P := fun (J : mw_I) => J a = C a) q (fun k _ z hz => ?_) rfl
  unfold hourI
  rw [mw_up_ne (by omega)]
  exact lpN_inv (P := fun (J : mw_I) => J a = C a) 3 (fun i hi y hy => (fr_run2 hi ha).trans hy) hz
theorem mrun_lo {M : mw_I} {tt : Nat → Nat} {h q a : Nat} (ha : a < 40) : mrunI tt h q M a = M a := by
  unfold mrunI
  rw [mhours_f (by omega) (by omega), mw_up_ne (by omega)]
theorem mrun_t {M : mw_I} {tt : Nat → Nat} {h q : Nat} : mrunI tt h q M 40 19 = 0 := by
  refine lpN_inv (P := fun (J : mw_I) => J 40 19 = 0) q (fun k _ z hz => ?_) mw_up_at
  unfold mhourI
  rw [mw_up_nj (by decide), mruns_f (by decide)]
  exact hz
theorem s_run : st_run lwR := by
  intro l I L x1 hr
  by_cases g1 : okR x1 1 24
  · obtain ⟨q, hq0, hq, rfl⟩ := okR_nat1 (n := 24) (by decide) g1
    obtain ⟨h, hh, hH, hH2, hP⟩ := id hr
    by_cases hs : h + q ≤ 200
    · have htt : ∃ tt : Nat → Nat, ∀ i, i < 3 → tt i < 6 ∧ I 43 i = nI (tt i) := by
        refine ⟨fun i => (I 43 i).toNatClampNeg, fun i hi => ?_⟩
        obtain ⟨v, hv, ev⟩ := hP.1.bF i hi (43, 5) (by decide)
        dsimp only at hv ev
        show (I 43 i).toNatClampNeg < 6 ∧ I 43 i = nI (I 43 i).toNatClampNeg
        rw [ev, nI_clamp (by omega)]
        exact ⟨by omega, rfl⟩
      obtain ⟨tt, htt⟩ := htt
      have ht2 : ∀ i, i < 3 → tt i < 6 ∧ I (7 + 11 * i) 2 = nI (tt i) := fun i hi => ⟨(htt i hi).1, (hP.1.F i hi (2, 43) (by decide)).trans (htt i hi).2⟩
      obtain ⟨J, hJ⟩ : ∃ J, runI tt h q I = J := ⟨_, rfl⟩
      have jf : ∀ a, 40 ≤ a → J a = I a := fun a ha => by rw [← hJ]; exact fr_runI ha
      have hc := c_run l q hq0 hq h hs tt I hH ht2 L
      rw [hJ] at hc
      have J40 : J 40 10 = nI h := by rw [jf 40 (by decide)]; exact hH2
      have hm := fun L' => c_m_run l q hq0 hq h hs tt J J40 (fun i hi => ⟨(htt i hi).1, by rw [jf 43 (by decide)]; exact (htt i hi).2⟩) L'
      have J06 : J 0 6 = nI (h + q) := by rw [← hJ]; exact hours_h hH q
      have K40 : mrunI tt h q J 40 10 = nI (h + q) := mhours_h ((mw_up_nj (by decide)).trans J40) q
      refine ⟨0, mrunI tt h q J 40 10, J, mrunI tt h q J, mw_upL L 59 0 (J 0 6).toInt64, 4, by decide, w_run l _ _ _ _ (by decide) (by decide) (by decide) hc, hm _, mrun_t, fun _ => st_q L (by rw [J06, K40]), ?_⟩
      have start : relP I (mw_up J 40 19 0) h 0 := relP_cong (fun _ _ _ _ _ => rfl) (fun a h1 h2 => by rw [mw_up_ne (by omega), jf a (by omega)]) hP
      have fin := hoursP (tt := tt) (fun i hi => (htt i hi).1) start q hs
      have r2 : rel2 J (mrunI tt h q J) := ⟨h + q, hs, J06, K40, by rw [← hJ]; rw [← hJ] at fin; exact fin⟩
      exact rel2_cong (fun a ha _ _ => mrun_lo ha) (fun _ _ _ => rfl) rfl r2
    · exact ⟨2, 0, I, mw_up I 40 19 2, L, 4, by decide, w_runS l _ _ _ _ (by decide) (by decide) (by decide) (c_runS l q hq0 hq h (by omega) (by omega) I hH L), c_m_runS l q hq0 hq h (by omega) (by omega) I hH2 L, mw_up_at, fun h => absurd h (by decide), lwR_t 2 hr⟩
  · exact ⟨1, 0, I, mw_up I 40 19 1, L, 4, by decide, w_runX l _ _ _ _ (by decide) (by decide) (by decide) (c_runX l x1 g1 I L), c_m_runX l x1 g1 I L, mw_up_at, fun h => absurd h (by decide), lwR_t 1 hr⟩
