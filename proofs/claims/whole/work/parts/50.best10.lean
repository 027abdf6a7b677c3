/-! bestRelease -/
theorem fnd_nat {K : mw_I} {mx : Nat → Nat} {cp bs mn lv m a : Nat} {V : Nat → Nat} (hx : ∀ f, f < 17 → mx f ≤ 400) (ex : ∀ f, f < 17 → mixedV K 0 (nI f) = nI (mx f)) (eb : K 42 0 = nI bs) (em : K 46 0 = nI mn) (hmn : mn ≤ 20) (hb : bs ≤ 100) (hcp : cp ≤ 200) (hlv : lv ≤ 250) (hV : ∀ c, c ≤ 200 → V c ≤ 100000) (hrow : ∀ c, c ≤ 200 → K 58 (260 * m + c) = nI (V c)) (hf : fstJ (fun j => enN mx bs lv (4 * j) + V (lfN cp lv (4 * j))) (okB mn lv) 5 a) : ∀ n, n ≤ 5 → (a < n → ∀ z, fndV K cp lv m (nI (enN mx bs lv (4 * a) + V (lfN cp lv (4 * a)))) n z = nI (4 * a)) ∧ (n ≤ a → fndV K cp lv m (nI (enN mx bs lv (4 * a) + V (lfN cp lv (4 * a)))) n (nI (4 * a)) = nI (4 * a)) := by
  obtain ⟨f1, f2, f3, f4⟩ := hf
  have hg : ∀ j, j < 5 → enN mx bs lv (4 * j) + V (lfN cp lv (4 * j)) ≤ 200000 := fun j hj => by
    have h1 := enN_le (mx := mx) (bs := bs) (lv := lv) (it := 4 * j) (hx _ (by omega)) hb hlv
    have h2 := hV (lfN cp lv (4 * j)) (lfN_le hcp)
    unfold enN
    omega
  intro n
  induction n with
  | zero => intro _; exact ⟨fun h => absurd h (Nat.not_lt_zero a), fun _ => rfl⟩
  | succ n ih =>
    intro hn
    obtain ⟨i1, i2⟩ := ih (by omega)
    refine ⟨fun h z => ?_, fun h => ?_⟩
    · show fndV K cp lv m _ n (fndF K cp lv m _ n z) = _
      by_cases e : a = n
      · subst e
        have hm : ¬ mayV K (nI (4 * a)) (nI lv) = 0 := (may_iff em hmn (by omega) (by omega)).mpr (okB_iff.mp f2)
        unfold fndF
        rw [if_neg hm, comes_nat hx ex eb hb hcp (by omega) hlv hrow, if_pos rfl]
        exact i2 (Nat.le_refl _)
      · exact i1 (by omega) _
    · show fndV K cp lv m _ n (fndF K cp lv m _ n (nI (4 * a))) = _
      have hz : fndF K cp lv m (nI (enN mx bs lv (4 * a) + V (lfN cp lv (4 * a)))) n (nI (4 * a)) = nI (4 * a) := by
        unfold fndF
        by_cases q : okB mn lv n = true
        · have hm : ¬ mayV K (nI (4 * n)) (nI lv) = 0 := (may_iff em hmn (by omega) (by omega)).mpr (okB_iff.mp q)
          have hlt := f4 n (by omega) q
          have h5 := hg a f1
          dsimp only at hlt
          rw [if_neg hm, comes_nat hx ex eb hb hcp (by omega) hlv hrow, if_neg (fun w => by have := (nI_eq (by omega) (by omega)).mp w; omega)]
        · rw [if_pos (Classical.byContradiction fun w => q (okB_iff.mpr ((may_iff em hmn (by omega) (by omega)).mp w)))]
      rw [hz]
      exact i2 (by omega)
