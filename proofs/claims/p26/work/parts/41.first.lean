/-! the first memory has the relation -/
theorem fm_C {a : Nat} (ha : a < 40) : moI wcI a = wcI a := fr_mo (by omega) (by omega) (by omega) (by omega) (by omega)
theorem fm_z {a : Nat} (h1 : 40 ≤ a) (h2 : a ≠ 41) (h3 : a ≠ 42) (h4 : a ≠ 43) (h5 : a ≠ 45) (h6 : a ≠ 48) : moI wcI a = fun _ => 0 := by
  rw [fr_mo h2 h3 h4 h5 h6]
  unfold wcI
  rw [fr_plI (by omega) (by omega) (by omega) (by omega), fr_plI (by omega) (by omega) (by omega) (by omega), fr_plI (by omega) (by omega) (by omega) (by omega)]
  rfl
def plF (K : mw_I) (b : Nat) : mw_I := lpN (fun k J => mw_up (mw_up J (b + 8 + 0) k (10 * nI k)) (b + 8 + 1) k (10 * nI k)) 9 (plI4 K b)
theorem fm_x : ∀ i, i < 3 → ∃ F : mw_I, (∀ f, wcI (7 + 11 * i + 10) f = mixI F (7 + 11 * i) (7 + 11 * i + 10) f) ∧ ∀ t, t < 2 → wcI (7 + 11 * i + 8 + t) = F (7 + 11 * i + 8 + t) := by
  intro i hi
  rcases (by omega : i = 0 ∨ i = 1 ∨ i = 2) with rfl | rfl | rfl
  · refine ⟨plF mw_I0 7, fun f => ?_, fun t ht => ?_⟩
    · unfold wcI
      rw [fr_plI (by omega) (by omega) (by omega) (by omega), fr_plI (by omega) (by omega) (by omega) (by omega)]
      rfl
    · unfold wcI
      rw [fr_plI (by omega) (by omega) (by omega) (by omega), fr_plI (by omega) (by omega) (by omega) (by omega)]
      exact fr_mix (by omega)
  · refine ⟨plF (plI mw_I0 7) 18, fun f => ?_, fun t ht => ?_⟩
    · unfold wcI
      rw [fr_plI (by omega) (by omega) (by omega) (by omega)]
      rfl
    · unfold wcI
      rw [fr_plI (by omega) (by omega) (by omega) (by omega)]
      exact fr_mix (by omega)
  · exact ⟨plF (plI (plI mw_I0 7) 18) 29, fun f => rfl, fun t ht => fr_mix (by omega)⟩
theorem fm_F : relF (moI wcI) (moI wcI) := by
  unfold relF
  decide +kernel
theorem fm_Y : relY (moI wcI) (moI wcI) := by
  unfold relY
  decide +kernel
theorem fm_bF : ∀ i, i < 3 → ∀ q, q ∈ rB → (moI wcI q.1 i).toNatClampNeg ≤ q.2 ∧ moI wcI q.1 i = nI (moI wcI q.1 i).toNatClampNeg := by decide +kernel
theorem fm_bY : ∀ k, k < 54 → (moI wcI 48 k).toNatClampNeg ≤ 200 ∧ moI wcI 48 k = nI (moI wcI 48 k).toNatClampNeg := by decide +kernel
theorem first : lwR (moI wcI) := by
  have z := fun {a : Nat} => fm_z (a := a)
  have zc : ∀ i, i < 3 → ∀ a, (1 ≤ a ∧ a < 8) → moI wcI (7 + 11 * i + a) = fun _ => 0 := fun i hi a ha => by
    rw [fm_C (by omega)]
    unfold wcI
    rw [fr_plI (by omega) (by omega) (by omega) (by omega), fr_plI (by omega) (by omega) (by omega) (by omega), fr_plI (by omega) (by omega) (by omega) (by omega)]
    rfl
  have zl : ∀ a, a < 7 → moI wcI a = fun _ => 0 := fun a ha => by
    rw [fm_C (by omega)]
    unfold wcI
    rw [fr_plI (by omega) (by omega) (by omega) (by omega), fr_plI (by omega) (by omega) (by omega) (by omega), fr_plI (by omega) (by omega) (by omega) (by omega)]
    rfl
  refine ⟨0, Nat.zero_le _, by rw [zl 0 (by decide)]; rfl, by rw [z (by decide) (by decide) (by decide) (by decide) (by decide) (by decide)]; rfl, ⟨fm_F, fun i hi o ho => ⟨?_, ?_⟩, fm_Y, fun o ho => ⟨?_, ?_, ?_⟩, fun i hi f hf => ?_, fun i hi q hq => ⟨_, fm_bF i hi q hq⟩, fun k hk => ⟨0, Nat.zero_le _, ?_⟩, fun k hk => ⟨_, fm_bY k hk⟩, fun i hi => ⟨0, Nat.zero_le _, ?_⟩⟩, fun i hi o ho j hj => ?_, fun i hi o ho k hk hz => ?_, fun i hi j hj => ⟨0, Nat.zero_le _, ?_⟩, fun i hi => absurd hi (Nat.not_lt_zero i)⟩
  · rw [zc i hi 1 (by decide), z (by decide) (by decide) (by decide) (by decide) (by decide) (by decide)]
  · rw [zc i hi 2 (by decide), z (by decide) (by decide) (by decide) (by decide) (by decide) (by decide)]
  · rw [zl 2 (by decide), z (by decide) (by decide) (by decide) (by decide) (by decide) (by decide)]
  · rw [zl 3 (by decide), z (by decide) (by decide) (by decide) (by decide) (by decide) (by decide)]
  · rw [zl 4 (by decide), z (by decide) (by decide) (by decide) (by decide) (by decide) (by decide)]
    show (0 : Int32) = -0
    decide
  · obtain ⟨F, hF1, hF2⟩ := fm_x i hi
    rw [fm_C (by omega), hF1]
    refine isMx.uq (s := fun x y => F (7 + 11 * i + 8 + 0) x + F (7 + 11 * i + 8 + 1) y) (mx_all (fun _ _ => rfl) f hf) ?_
    obtain ⟨g1, g2, g3⟩ := mx_ref (M := moI wcI) (i := i) (f := f) (by omega)
    have es : ∀ x y, x < 9 → y < 9 → F (7 + 11 * i + 8 + 0) x + F (7 + 11 * i + 8 + 1) y = sM (moI wcI) i x y := by
      intro x y hx hy
      have e0 := fm_Y i hi 0 (by decide) x hx
      have e1 := fm_Y i hi 1 (by decide) y hy
      rw [fm_C (by omega), hF2 _ (by decide)] at e0 e1
      rw [e0, e1]
      rfl
    refine ⟨g1, fun x y hx hy hp => by show _ + _ ≤ _; rw [es x y hx hy]; exact g2 x y hx hy hp, ?_⟩
    rcases g3 with g | ⟨x, y, hx, hy, hp, g⟩
    · exact Or.inl g
    · exact Or.inr ⟨x, y, hx, hy, hp, by show _ = _ + _; rw [es x y hx hy]; exact g⟩
  · rw [z (by decide) (by decide) (by decide) (by decide) (by decide) (by decide)]
    rfl
  · unfold filledV
    rw [z (by decide) (by decide) (by decide) (by decide) (by decide) (by decide)]
    rfl
  · have e : 7 + 11 * i + 5 + o = 7 + 11 * i + (5 + o) := by omega
    rw [e, zc i hi (5 + o) (by omega), z (by decide) (by decide) (by decide) (by decide) (by decide) (by decide)]
  · rw [z (by decide) (by decide) (by decide) (by decide) (by decide) (by decide)]
  · rw [z (by decide) (by decide) (by decide) (by decide) (by decide) (by decide)]
    rfl
