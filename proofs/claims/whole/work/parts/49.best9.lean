/-! bestEnergy -/
theorem s_bestEnergy : st_bestEnergy lwR := by
  intro l I L x1 hr
  by_cases g1 : okR x1 1 6
  · obtain ⟨q, hq0, hq, rfl⟩ := okR_nat1 (n := 6) (by decide) g1
    obtain ⟨m, rfl⟩ : ∃ m, q = m + 1 := ⟨q - 1, by omega⟩
    obtain ⟨mx, cp, bs, mn, inf, w, hx, ex, ec, ⟨c1, c2, c3⟩, ⟨b1, b2, b3⟩, ⟨n1, n2, n3⟩, ⟨i1, i2, i3⟩, hw, w1, w2⟩ := lw_facts hr
    obtain ⟨j1, j2⟩ := wb_nat (I := I) hx ec b2 c2 n2 i2 b3 c3 n3 i3 m (by omega)
    have hc := c_bestEnergy l m (by omega) mn n3 I n2 L
    generalize wbI m I = J at j1 j2 hc
    have jm : ∀ a, 7 ≤ a → J a = I a := fun a ha => j1 a (by omega) (by omega)
    have jw : waterV J (7 + 11 * 0) = nI w := by
      rw [← w2]
      unfold waterV
      rw [jm _ (by omega)]
    have jf : filledV J 0 = nI w := by rw [filledV_eq (jm 49 (by decide))]; exact w1
    refine ⟨0, greI cp inf m J 58 (260 * (m + 1) + w), J, greI cp inf m J, mw_upL L 59 0 (greatFromV J (waterV J (7 + 11 * 0))).toInt64, 5, by decide, w_bestEnergy l _ _ _ _ (by decide) (by decide) (by decide) hc, c_m_bestEnergy l cp c3 inf i3 w hw m (by omega) J (by rw [jm 41 (by decide)]; exact c1) (by rw [jm 44 (by decide)]; exact i1) jf _, gre_t, fun _ => st_q L ?_, lwR_best hr j1⟩
    have k7 : J (7 + 11 * 0) = I (7 + 11 * 0) := jm _ (by decide)
    have kx : J (7 + 11 * 0 + 10) = I (7 + 11 * 0 + 10) := jm _ (by decide)
    rw [gre_nat (by omega) hx (fun f hf => by rw [mixedV_eq (jm 48 (by decide))]; exact ex f hf) (by rw [jm 42 (by decide)]; exact b1) (by rw [jm 46 (by decide)]; exact n1) n3 b3 c3 i3 hw, jw, great_nat hx (fun f hf => by rw [kx]; exact ec f hf) (by rw [k7]; exact b2) (by rw [k7]; exact c2) (by rw [k7]; exact n2) (by rw [k7]; exact i2) b3 c3 n3 i3 hw (by omega) j2]
  · exact ⟨1, 0, I, mw_up I 40 19 1, L, 5, by decide, w_bestEnergyX l _ _ _ _ (by decide) (by decide) (by decide) (c_bestEnergyX l x1 g1 I L), c_m_bestEnergyX l x1 g1 I L, mw_up_at, fun h => absurd h (by decide), lwR_t 1 hr⟩
