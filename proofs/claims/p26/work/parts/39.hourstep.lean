/-! one plant's hour keeps the relation; then an hour; then hours -/
theorem step3 {C M : mw_I} {h p t : Nat} (hp : p < 3) (hh : h < 200) (ht : t < 6) (hr : relP C M h p) : relP (runPlantI C p h t) (worksI M p h t) h (p + 1) := by
  obtain ⟨X, Wx, w, hWx, hw, eX, ew, a3, a2, a50, a52, aF⟩ := step2 (t := t) hp hr
  obtain ⟨s1, s2, -⟩ := step1 hp hr
  obtain ⟨⟨h1, h2, h3, h4, h5, h6, h7, h8, h9⟩, h10, h11, h12, h13⟩ := hr
  have hF : runPlantI C p h t = sndI (spillI (letGoI (rcvI C (7 + 11 * p) h) (7 + 11 * p)) (7 + 11 * p)) p h t := rfl
  have b7 : 7 ≤ 7 + 11 * p := by omega
  -- names that nothing of the plant's hour reaches
  have fr := fun {a : Nat} => fr_run1 (C := C) (p := p) (h := h) (t := t) (a := a)
  have rn := fun {a : Nat} => R_ne (M := M) (p := p) (h := h) (t := t) (a := a)
  -- the middle: from the spill to the sends
  have mid : ∀ a, (a < 7 + 11 * (p + 1) + 5 ∨ 7 + 11 * (p + 1) + 7 ≤ a) → a ≠ 3 → runPlantI C p h t a = spillI (letGoI (rcvI C (7 + 11 * p) h) (7 + 11 * p)) (7 + 11 * p) a := fun a q1 q2 => fr_sends (Nat.le_refl 2) q1 q2
  have fst : ∀ a, a ≠ 7 + 11 * p → a ≠ 7 + 11 * p + 2 → a ≠ 7 + 11 * p + 3 → spillI (letGoI (rcvI C (7 + 11 * p) h) (7 + 11 * p)) (7 + 11 * p) a = rcvI C (7 + 11 * p) h a := fun a q0 q2 q3 => by rw [fr_spill q0 q2 q3, fr_go q0 q2 q3]
  have r50 : ∀ k, k ≠ 210 * (2 * p + 2 + 0) + h + t → k ≠ 210 * (2 * p + 2 + 1) + h + t → k ≠ 210 * (2 * p + 0) + h → k ≠ 210 * (2 * p + 1) + h → worksI M p h t 50 k = M 50 k := fun k q0 q1 q2 q3 => by rw [R_50n q0 q1, wA_un q2 q3]
  have r49 : ∀ k, k ≠ 2 * p → k ≠ 2 * p + 1 → worksI M p h t 49 k = M 49 k := fun k q0 q1 => by
    unfold worksI wkE
    rw [wS_49n q0 q1, wP_49n q0 q1, wB_accn q0 q1, wA_accn q0 q1]
  have r54 : ∀ m, 54 ≤ m → m < 58 → ∀ k, k ≠ p → worksI M p h t m k = M m k := fun m q1 q2 k hk => by
    have z : wkB (wkA M p h) p m = M m := (fr_wkB (by omega) (by omega)).trans (fr_wkA (by omega) (by omega) 2)
    unfold worksI wkE
    rcases (by omega : m = 54 ∨ m = 55 ∨ m = 56 ∨ m = 57) with rfl | rfl | rfl | rfl
    · rw [wS_54n hk, fr_wkP (by decide) (by decide) (by decide) (by decide) (by decide) (by decide), z]
    · rw [fr_wkS (by decide) (by decide) (by decide) (by decide), wP_55n hk, z]
    · rw [fr_wkS (by decide) (by decide) (by decide) (by decide), wP_56n hk, z]
    · rw [fr_wkS (by decide) (by decide) (by decide) (by decide), wP_57n hk, z]
  have rmx : ∀ i f, mixedV (worksI M p h t) i f = mixedV M i f := fun i f => mixedV_eq (rn (by decide) (by decide) (by decide) (by decide) (by decide) (by decide) (by decide) (by decide)) i f
  have r46 : ∀ m, m < 47 → worksI M p h t m = M m := fun m q => rn (by omega) (by omega) (by omega) (by omega) (by omega) (by omega) (by omega) (by omega)
  have hq : ∀ q ∈ rF, (q.1 < 6 ∧ q.2 < 47) ∨ (12 ≤ q.1 ∧ 54 ≤ q.2 ∧ q.2 < 58) := by decide
  have hqb : ∀ q ∈ rB, q.1 < 47 := by decide
  refine ⟨⟨fun i hi q hq2 => ?_, fun i hi o ho => ⟨?_, ?_⟩, fun i hi t2 ht2 f hf => ?_, fun o ho => ⟨?_, ?_, ?_⟩, fun i hi f hf => ?_, fun i hi q hq2 => ?_, fun k hk => ?_, fun k hk => ?_, fun i hi => ?_⟩, fun i hi o ho j hj => ?_, fun i hi o ho k hk hz => ?_, fun i hi j hj => ?_, fun i hi o ho => ?_⟩
  · by_cases e : i = p
    · subst e
      rcases hq q hq2 with ⟨g1, g2⟩ | ⟨g1, -, -⟩
      · rw [r46 _ g2]
        exact (run_t (by omega)).trans (h1 i hi q hq2)
      · rw [mid _ (by omega) (by omega)]
        exact aF q hq2 g1
    · rw [fr (by omega) (by omega) (by omega) (by omega) (by omega) (by omega) (by omega) (by omega) (by omega), h1 i hi q hq2]
      rcases hq q hq2 with ⟨g1, g2⟩ | ⟨-, g1, g2⟩
      · rw [r46 _ g2]
      · rw [r54 _ g1 g2 i e]
  · rw [fr (by omega) (by omega) (by omega) (by omega) (by omega) (by omega) (by omega) (by omega) (by omega), rn (by decide) (by decide) (by decide) (by decide) (by decide) (by decide) (by decide) (by decide)]
    exact (h2 i hi o ho).1
  · by_cases e : i = p
    · subst e
      rw [mid _ (by omega) (by omega)]
      exact a2 o ho
    · rw [fr (by omega) (by omega) (by omega) (by omega) (by omega) (by omega) (by omega) (by omega) (by omega), r49 _ (by omega) (by omega)]
      exact (h2 i hi o ho).2
  · rw [fr (by omega) (by omega) (by omega) (by omega) (by omega) (by omega) (by omega) (by omega) (by omega), rn (by decide) (by decide) (by decide) (by decide) (by decide) (by decide) (by decide) (by decide)]
    exact h3 i hi t2 ht2 f hf
  · rw [mid _ (by omega) (by omega), fst _ (by omega) (by omega) (by omega), s2 o ho]
    unfold worksI wkE
    rw [fr_wkS (by decide) (by decide) (by decide) (by decide), fr_wkP (by decide) (by decide) (by decide) (by decide) (by decide) (by decide)]
  · by_cases e : p = 2
    · rw [hF, sn_3 (by omega) ho, a3 o ho, a52 o ho e, fst _ (by omega) (by omega) (by omega), show rcvI C (7 + 11 * p) h 3 = C 3 from fr_recvs (Nat.le_refl 2) (by omega) (by omega) (by omega), (h4 o ho).2.1]
    · have g : worksI M p h t 52 = M 52 := by
        unfold worksI wkE
        rw [wS_52m e, wP_52m e, fr_wkB (by decide) (by decide)]
        exact fr_wkA (by decide) (by decide) 2
      rw [hF, sn_3m (by omega), g, fst _ (by omega) (by omega) (by omega), show rcvI C (7 + 11 * p) h 3 = C 3 from fr_recvs (Nat.le_refl 2) (by omega) (by omega) (by omega), (h4 o ho).2.1]
  · rw [fr (by omega) (by omega) (by omega) (by omega) (by omega) (by omega) (by omega) (by omega) (by omega), rn (by decide) (by decide) (by decide) (by decide) (by decide) (by decide) (by decide) (by decide)]
    exact (h4 o ho).2.2
  · rw [fr (by omega) (by omega) (by omega) (by omega) (by omega) (by omega) (by omega) (by omega) (by omega), rmx]
    exact h5 i hi f hf
  · rw [r46 _ (hqb q hq2)]
    exact h6 i hi q hq2
  · rw [rn (by decide) (by decide) (by decide) (by decide) (by decide) (by decide) (by decide) (by decide)]
    exact h7 k hk
  · rw [rn (by decide) (by decide) (by decide) (by decide) (by decide) (by decide) (by decide) (by decide)]
    exact h8 k hk
  · by_cases e : i = p
    · subst e
      exact ⟨w, hw, ew⟩
    · obtain ⟨w2, q1, q2⟩ := h9 i hi
      refine ⟨w2, q1, ?_⟩
      unfold filledV at q2 ⊢
      rw [r49 _ (by omega) (by omega), r49 _ (by omega) (by omega)]
      exact q2
  · have old := h10 i hi o ho j hj
    by_cases e : i = p
    · subst e
      rw [mid _ (by omega) (by omega), fst _ (by omega) (by omega) (by omega), R_50n (by omega) (by omega)]
      by_cases ej : j = 0
      · subst ej
        exact (rc_sl b7 ho).trans (wA_u ho).symm
      · rw [rc_sln b7 ho (by omega), wA_un (by omega) (by omega)]
        exact old
    · by_cases e1 : i = p + 1
      · subst e1
        have ra : rcvI C (7 + 11 * p) h (7 + 11 * (p + 1) + 5 + o) = C (7 + 11 * (p + 1) + 5 + o) := fr_recvs (Nat.le_refl 2) (by omega) (by omega) (by omega)
        by_cases ej : j = t
        · subst ej
          have ek : 210 * (2 * (p + 1) + o) + (h + j) = 210 * (2 * p + 2 + o) + h + j := by omega
          rw [ek] at old ⊢
          rw [hF, sn_sl (by omega) ho, a3 o ho, a50 o ho (by omega), fst _ (by omega) (by omega) (by omega), ra, old, wA_un (by omega) (by omega)]
        · rw [hF, sn_sln (by omega) ho (by omega), fst _ (by omega) (by omega) (by omega), ra, old, r50 _ (by omega) (by omega) (by omega) (by omega)]
      · rw [fr (by omega) (by omega) (by omega) (by omega) (by omega) (by omega) (by omega) (by omega) (by omega), old, r50 _ (by omega) (by omega) (by omega) (by omega)]
  · rw [r50 _ (by omega) (by omega) (by omega) (by omega)]
    exact h11 i hi o ho k hk hz
  · obtain ⟨u, hu, eu⟩ := h12 i hi j hj
    by_cases e : i = p ∧ j = 0
    · obtain ⟨rfl, rfl⟩ := e
      refine ⟨0, Nat.zero_le _, ?_⟩
      rw [R_50n (by omega) (by omega), R_50n (by omega) (by omega)]
      have z0 : wkA M i h 50 (210 * (2 * i + 0) + (h + 0)) = 0 := wA_u (by decide)
      have z1 : wkA M i h 50 (210 * (2 * i + 1) + (h + 0)) = 0 := wA_u (by decide)
      rw [z0, z1]
      rfl
    · by_cases e1 : i = p + 1 ∧ j = t
      · obtain ⟨rfl, rfl⟩ := e1
        have k0 : 210 * (2 * (p + 1) + 0) + (h + j) = 210 * (2 * p + 2 + 0) + h + j := by omega
        have k1 : 210 * (2 * (p + 1) + 1) + (h + j) = 210 * (2 * p + 2 + 1) + h + j := by omega
        rw [k0, k1] at eu ⊢
        refine ⟨u + Wx, ?_, ?_⟩
        · rw [if_neg (by omega)] at hu
          rw [if_pos (Nat.le_refl _)]
          have hb : 250 + 6 * uB p ≤ uB (p + 1) := by
            rcases (by omega : p = 0 ∨ p = 1) with rfl | rfl <;> decide
          have hm : (5 - j) * uB (p + 1) + uB (p + 1) = (6 - j) * uB (p + 1) := by
            rw [show 6 - j = 5 - j + 1 by omega, Nat.succ_mul]
          omega
        · rw [a50 0 (by decide) (by omega), a50 1 (by decide) (by omega), wA_un (by omega) (by omega), wA_un (by omega) (by omega), ← nI_add, ← eu, ← eX]
          generalize M 50 (210 * (2 * p + 2 + 0) + h + j) = a
          generalize M 50 (210 * (2 * p + 2 + 1) + h + j) = c
          generalize X 0 = d
          generalize X 1 = f
          grind
      · refine ⟨u, Nat.le_trans hu (Nat.mul_le_mul_right _ ?_), ?_⟩
        · split <;> split <;> omega
        · rw [r50 _ (by omega) (by omega) (by omega) (by omega), r50 _ (by omega) (by omega) (by omega) (by omega)]
          exact eu
  · by_cases e : i = p
    · subst e
      rw [R_50n (by omega) (by omega)]
      exact wA_u ho
    · rw [r50 _ (by omega) (by omega) (by omega) (by omega)]
      exact h13 i (by omega) o ho
