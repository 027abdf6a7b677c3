/-! an hour, and hours, keep the relation; run -/
theorem shiftP {C M : mw_I} {h : Nat} (hh : h < 200) (hr : relP C M h 3) : relP C M (h + 1) 0 := by
  obtain ⟨hA, h10, h11, h12, h13⟩ := hr
  refine ⟨hA, fun i hi o ho j hj => ?_, fun i hi o ho k hk hz => ?_, fun i hi j hj => ?_, fun i hi o ho => absurd hi (Nat.not_lt_zero i)⟩
  · by_cases e : j = 5
    · subst e
      have a := h10 i hi o ho 0 (by decide)
      have z : M 50 (210 * (2 * i + o) + (h + 0)) = 0 := h13 i hi o ho
      rw [show (h + 1 + 5) % 6 = (h + 0) % 6 by omega, a, z]
      exact (h11 i hi o ho (h + 1 + 5) (by omega) (Or.inr (by omega))).symm
    · have a := h10 i hi o ho (j + 1) (by omega)
      rw [show h + 1 + j = h + (j + 1) by omega]
      exact a
  · by_cases e : k = h
    · subst e
      exact h13 i hi o ho
    · exact h11 i hi o ho k hk (by omega)
  · by_cases e : j = 5
    · subst e
      refine ⟨0, Nat.zero_le _, ?_⟩
      rw [h11 i hi 0 (by decide) (h + 1 + 5) (by omega) (Or.inr (by omega)), h11 i hi 1 (by decide) (h + 1 + 5) (by omega) (Or.inr (by omega))]
      rfl
    · obtain ⟨u, hu, eu⟩ := h12 i hi (j + 1) (by omega)
      rw [if_pos (by omega)] at hu
      refine ⟨u, Nat.le_trans hu (Nat.mul_le_mul_right _ ?_), ?_⟩
      · split <;> omega
      · rw [show h + 1 + j = h + (j + 1) by omega]
        exact eu
theorem stepsP {C M : mw_I} {h : Nat} {tt : Nat → Nat} (hh : h < 200) (ht : ∀ i, i < 3 → tt i < 6) (hr : relP C M h 0) : ∀ p, p ≤ 3 → relP (lpN (fun i J => runPlantI J i h (tt i)) p C) (lpN (fun i J => worksI J i h (tt i)) p M) h p := by
  intro p
  induction p with
  | zero => intro _; exact hr
  | succ p ih =>
    intro hp
    exact step3 (by omega) hh (ht p (by omega)) (ih (by omega))
theorem hourP {C M : mw_I} {h : Nat} {tt : Nat → Nat} (hh : h < 200) (ht : ∀ i, i < 3 → tt i < 6) (hr : relP C M h 0) : relP (hourI tt h C) (mhourI tt h M) (h + 1) 0 := by
  refine shiftP hh (relP_cong (fun a ha h0 _ _ => ?_) (fun a h1 h2 => ?_) (stepsP hh ht hr 3 (Nat.le_refl 3)))
  · unfold hourI
    rw [mw_up_ne h0]
  · unfold mhourI
    exact mw_up_ne (by omega)
theorem hoursP {C M : mw_I} {h : Nat} {tt : Nat → Nat} (ht : ∀ i, i < 3 → tt i < 6) (hr : relP C M h 0) : ∀ n, h + n ≤ 200 → relP (lpN (fun k J => hourI tt (h + k) J) n C) (lpN (fun k J => mhourI tt (h + k) J) n M) (h + n) 0 := by
  intro n
  induction n with
  | zero => intro _; exact hr
  | succ n ih =>
    intro hn
    exact hourP (by omega) ht (ih (by omega))
theorem fr_run2 {C : mw_I} {p h t a : Nat} (hp : p < 3) (ha : 40 ≤ a) : runPlantI C p h t a = C a := by
  by_cases e : p + 1 < 3
  · exact fr_run1 (by omega) (by omega) (by omega) (by omega) (by omega) (by omega) (by omega) (by omega) (by omega)
  · show sndI (spillI (letGoI (rcvI C (7 + 11 * p) h) (7 + 11 * p)) (7 + 11 * p)) p h t a = C a
    rw [sn_ne e (by omega), fr_spill (by omega) (by omega) (by omega), fr_go (by omega) (by omega) (by omega)]
    exact fr_recvs (Nat.le_refl 2) (by omega) (by omega) (by omega)
theorem fr_runI {C : mw_I} {tt : Nat → Nat} {h q a : Nat} (ha : 40 ≤ a) : runI tt h q C a = C a := by
  refine lpN_inv (P := fun (J : mw_I) => J a = C a) q (fun k _ z hz => ?_) rfl
  unfold hourI
  rw [mw_up_ne (by omega)]
  exact lpN_inv (P := fun (J : mw_I) => J a = C a) 3 (fun i hi y hy => (fr_run2 hi ha).trans hy) hz
theorem mrun_lo {M : mw_I} {tt : Nat → Nat} {h q a : Nat} (ha : a < 40) : mrunI tt h q M a = M a := by
  unfold mrunI
  rw [mhours_f (by omega) (by omega), mw_up_ne (by omega)]
theorem mrun_t {M : mw_I} {tt : Nat → Nat} {h q : Nat} : mrunI tt h q M 40 19 = 0 := by
  refine lpN_inv (P := fun (J : mw_I) => J 40 19 = 0) q (fun k _ z hz => ?_) mw_up_at
  unfold mhourI
  rw [mw_up_nj (by decide), mruns_f (by decide)]
  exact hz
