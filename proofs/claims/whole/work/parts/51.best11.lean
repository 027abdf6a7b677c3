/-! bestRelease, the step -/
theorem s_bestRelease : st_bestRelease lwR := by
  intro l I L x1 hr
  by_cases g1 : okR x1 1 6
  · obtain ⟨q, hq0, hq, rfl⟩ := okR_nat1 (n := 6) (by decide) g1
    obtain ⟨m, rfl⟩ : ∃ m, q = m + 1 := ⟨q - 1, by omega⟩
    obtain ⟨mx, cp, bs, mn, inf, w, hx, ex, ec, ⟨c1, c2, c3⟩, ⟨b1, b2, b3⟩, ⟨n1, n2, n3⟩, ⟨i1, i2, i3⟩, hw, w1, w2⟩ := lw_facts hr
    obtain ⟨j1, j2⟩ := wb_nat (I := I) hx ec b2 c2 n2 i2 b3 c3 n3 i3 m (by omega)
    have hc := c_bestRelease l m (by omega) mn n3 I n2 L
    generalize wbI m I = J at j1 j2 hc
    have jm : ∀ a, 7 ≤ a → J a = I a := fun a ha => j1 a (by omega) (by omega)
    have jw : waterV J (7 + 11 * 0) = nI w := by
      rw [← w2]
      unfold waterV
      rw [jm _ (by omega)]
    have jf : filledV J 0 = nI w := by rw [filledV_eq (jm 49 (by decide))]; exact w1
    have k7 : J (7 + 11 * 0) = I (7 + 11 * 0) := jm _ (by decide)
    have kx : J (7 + 11 * 0 + 10) = I (7 + 11 * 0 + 10) := jm _ (by decide)
    have hV : ∀ c, c ≤ 200 → Vn mx cp bs mn inf m c ≤ 100000 := fun c hc => Nat.le_trans (Vn_le hx b3 i3 m c hc c3) (by omega)
    obtain ⟨a, hfst, hlb⟩ := lb_nat (I := J) (lv := w + inf) hx (fun f hf => by rw [kx]; exact ec f hf) (by rw [k7]; exact b2) (by rw [k7]; exact c2) (by rw [k7]; exact n2) b3 c3 n3 (by omega) hV j2
    have la := lays_nat (M := mw_up J 40 19 0) hx (fun f hf => by rw [mixedV_eq (mw_up_ne (by decide)), mixedV_eq (jm 48 (by decide))]; exact ex f hf) (by rw [mw_up_ne (by decide), jm 42 (by decide)]; exact b1) (by rw [mw_up_ne (by decide), jm 46 (by decide)]; exact n1) n3 b3 c3 i3 (m + 1) (by omega)
    have gk : ∀ a, a ≠ 58 → a ≠ 40 → 7 ≤ a → greI cp inf m J a = I a := fun a h1 h2 h3 => by rw [fr_gre h1 h2, jm a h3]
    have fn := (fnd_nat (K := greI cp inf m J) (m := m) (lv := w + inf) hx (fun f hf => by rw [mixedV_eq (gk 48 (by decide) (by decide) (by decide))]; exact ex f hf) (by rw [gk 42 (by decide) (by decide) (by decide)]; exact b1) (by rw [gk 46 (by decide) (by decide) (by decide)]; exact n1) n3 b3 c3 (by omega) hV (fun c hc => la.2.1 m (by omega) c hc) hfst 5 (Nat.le_refl _)).1 hfst.1 0
    have top : greI cp inf m J 58 (260 * (m + 1) + w) = nI (enN mx bs (w + inf) (4 * a) + Vn mx cp bs mn inf m (lfN cp (w + inf) (4 * a))) := (la.2.1 (m + 1) (Nat.le_refl _) w hw).trans (congrArg nI hfst.2.2.1.symm)
    refine ⟨0, _, J, greI cp inf m J, mw_upL L 59 0 (leastBestV J (waterV J (7 + 11 * 0) + J (7 + 11 * 0) 4)).toInt64, 5, by decide, w_bestRelease l _ _ _ _ (by decide) (by decide) (by decide) hc, c_m_bestRelease l cp c3 inf i3 w hw m (by omega) J (by rw [jm 41 (by decide)]; exact c1) (by rw [jm 44 (by decide)]; exact i1) jf _, gre_t, fun _ => st_q L ?_, lwR_best hr j1⟩
    rw [jw, k7, i2, nI_add, hlb, top, fn]
  · exact ⟨1, 0, I, mw_up I 40 19 1, L, 5, by decide, w_bestReleaseX l _ _ _ _ (by decide) (by decide) (by decide) (c_bestReleaseX l x1 g1 I L), c_m_bestReleaseX l x1 g1 I L, mw_up_at, fun h => absurd h (by decide), lwR_t 1 hr⟩
