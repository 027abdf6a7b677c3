/-! the three steps of the best releases -/
theorem lw_facts {I : mw_I} (hr : lwR I) : ∃ (mx : Nat → Nat) (cp bs mn inf w : Nat), (∀ f, f < 17 → mx f ≤ 400) ∧ (∀ f, f < 17 → mixedV I 0 (nI f) = nI (mx f)) ∧ (∀ f, f < 17 → I (7 + 11 * 0 + 10) f = nI (mx f)) ∧ (I 41 0 = nI cp ∧ I (7 + 11 * 0) 0 = nI cp ∧ cp ≤ 200) ∧ (I 42 0 = nI bs ∧ I (7 + 11 * 0) 1 = nI bs ∧ bs ≤ 100) ∧ (I 46 0 = nI mn ∧ I (7 + 11 * 0) 3 = nI mn ∧ mn ≤ 20) ∧ (I 44 0 = nI inf ∧ I (7 + 11 * 0) 4 = nI inf ∧ inf ≤ 50) ∧ w ≤ 200 ∧ filledV I 0 = nI w ∧ waterV I (7 + 11 * 0) = nI w := by
  have hA := hr.A
  obtain ⟨cp, h1, e1⟩ := hA.bF 0 (by decide) (41, 200) (by decide)
  obtain ⟨bs, h2, e2⟩ := hA.bF 0 (by decide) (42, 100) (by decide)
  obtain ⟨mn, h3, e3⟩ := hA.bF 0 (by decide) (46, 20) (by decide)
  obtain ⟨inf, h4, e4⟩ := hA.bF 0 (by decide) (44, 50) (by decide)
  obtain ⟨w, h5, e5⟩ := hA.bW 0 (by decide)
  dsimp only at h1 h2 h3 h4 e1 e2 e3 e4
  have em : ∀ f, f < 17 → mixedV I 0 (nI f) = nI (mixedV I 0 (nI f)).toNatClampNeg ∧ (mixedV I 0 (nI f)).toNatClampNeg ≤ 400 := fun f hf => by
    obtain ⟨x, hx, ex⟩ := mix_nat hA (i := 0) (f := f) (by decide) (by omega)
    rw [ex, nI_clamp (by omega)]
    exact ⟨rfl, hx⟩
  refine ⟨fun f => (mixedV I 0 (nI f)).toNatClampNeg, cp, bs, mn, inf, w, fun f hf => (em f hf).2, fun f hf => (em f hf).1, fun f hf => (hA.X 0 (by decide) f hf).trans (em f hf).1, ⟨e1, (hA.F 0 (by decide) (0, 41) (by decide)).trans e1, h1⟩, ⟨e2, (hA.F 0 (by decide) (1, 42) (by decide)).trans e2, h2⟩, ⟨e3, (hA.F 0 (by decide) (3, 46) (by decide)).trans e3, h3⟩, ⟨e4, (hA.F 0 (by decide) (4, 44) (by decide)).trans e4, h4⟩, h5, e5, ?_⟩
  rw [← e5]
  unfold waterV filledV
  rw [(hA.O 0 (by decide) 0 (by decide)).2, (hA.O 0 (by decide) 1 (by decide)).2]
theorem lwR_best {I J : mw_I} {cp inf m : Nat} (hr : lwR I) (hJ : ∀ a, a ≠ 5 → a ≠ 6 → J a = I a) : lwR (greI cp inf m J) := by
  refine rel2_cong (fun a ha h5 h6 => ?_) (fun a h1 h2 => ?_) ?_ hr
  · rw [fr_gre (by omega) (by omega), hJ a h5 h6]
  · rw [fr_gre (by omega) (by omega), hJ a (by omega) (by omega)]
  · unfold greI
    rw [fr_lays (by decide), mw_up_nj (by decide), hJ 40 (by decide) (by decide)]
