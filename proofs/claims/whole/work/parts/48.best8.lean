/-! the three steps of the best releases -/
theorem lw_facts {I : mw_I} (hr : lwR I) : ∃ (mx : Nat → Nat) (cp bs mn inf w : Nat), (∀ f, f < 17 → mx f ≤ 400) ∧ (∀ f, f < 17 → mixedV I 0 (nI f) = nI (mx f)) ∧ (∀ f, f < 17 → I (7 + 11 * 0 + 10) f = nI (mx f)) ∧ (I 41 0 = nI cp ∧ I (7 + 11 * 0) 0 = nI cp ∧ cp ≤ 200) ∧ (I 42 0 = nI bs ∧ I (7 + 11 * 0) 1 = nI bs ∧ bs ≤ 100) ∧ (I 46 0 = nI mn ∧ I (7 + 11 * 0) 3 = nI mn ∧ mn ≤ 20) ∧ (I 44 0 = nI inf ∧ I (7 + 11 * 0) 4 = nI inf ∧ inf ≤ 50) ∧ w ≤ 200 ∧ filledV I 0 = nI w ∧ waterV I (7 + 11 * 0) = nI w := by
  have hA := hr.A
  obtain ⟨cp, h1, e1⟩ := hA.bF 0 (by decide) (41, 200) (by decide)
  obtain ⟨bs, h2, e2⟩ := hA.bF 0 (by decide) (42, 100) (by decide)
  obtain ⟨mn, h3, e3⟩ := hA.bF 0 (by decide) (46, 20) (by decide)
  obtain ⟨inf, h4, e4⟩ := hA.bF 0 (by decide) (44, 50) (by decide)
  obtain ⟨w, h5, e5⟩ := hA.bW 0 (by decide)
  dsimp only at h1 h2 h3 h4 e1 e2 e3 e4
  have em : ∀ f, f < 17 → mixedV I 0 (nI f) = nI (mixedV I 0 (nI f)).toNatClampNeg ∧ (mixedV I 0 (nI f)).toNatClampNeg ≤ 400 := fun f hf => by
    obtain ⟨x, hx, ex⟩ := mix_nat hA (i := 0) (f := f) (by decide) (by omega)
    rw [ex, nI_clamp (by omega)]
    exact ⟨rfl, hx⟩
  refine ⟨fun f => (mixedV I 0 (nI f)).toNatClampNeg, cp, bs, mn, inf, w, fun f hf => (em f hf).2, fun f hf => (em f hf).1, fun f hf => (hA.X 0 (by decide) f hf).trans (em f hf).1, ⟨e1, (hA.F 0 (by decide) (0, 41) (by decide)).trans e1, h1⟩, ⟨e2, (hA.F 0 (by decide) (1, 42) (by decide)).trans e2, h2⟩, ⟨e3, (hA.F 0 (by decide) (3, 46) (by decide)).trans e3, h3⟩, ⟨e4, (hA.F 0 (by decide) (4, 44) (by decide)).trans e4, h4⟩, h5, e5, ?_⟩
  rw [← e5]
  unfold waterV filledV
  rw [(hA.O 0 (by decide) 0 (by decide)).2, (hA.O 0 (by decide) 1 (by decide)).2]
theorem lwR_best {I J : mw_I} {cp inf m : Nat} (hr : lwR I) (hJ : ∀ a, a ≠ 5 → a ≠ 6 → J a = I a) : lwR (greI cp inf m J) := by
  refine rel2_cong (fun a ha h5 h6 => ?_) (fun a h1 h2 => ?_) ?_ hr
  · rw [fr_gre (by omega) (by omega), hJ a h5 h6]
  · rw [fr_gre (by omega) (by omega), hJ a (by omega) (by omega)]
  · unfold greI
    rw [fr_lays (by decide), mw_up_nj (by decide), hJ 40 (by decide) (by decide)]
theorem gre_nat {J : mw_I} {mx : Nat → Nat} {cp bs mn inf w m : Nat} (hm : m < 6) (hx : ∀ f, f < 17 → mx f ≤ 400) (ex : ∀ f, f < 17 → mixedV J 0 (nI f) = nI (mx f)) (eb : J 42 0 = nI bs) (em : J 46 0 = nI mn) (hmn : mn ≤ 20) (hb : bs ≤ 100) (hcp : cp ≤ 200) (hinf : inf ≤ 50) (hw : w ≤ 200) : greI cp inf m J 58 (260 * (m + 1) + w) = nI (Vn mx cp bs mn inf (m + 1) w) :=
  (lays_nat (M := mw_up J 40 19 0) hx (fun f hf => by rw [mixedV_eq (mw_up_ne (by decide))]; exact ex f hf) (by rw [mw_up_ne (by decide)]; exact eb) (by rw [mw_up_ne (by decide)]; exact em) hmn hb hcp hinf (m + 1) (by omega)).2.1 (m + 1) (Nat.le_refl _) w hw
theorem gre_t {J : mw_I} {cp inf m : Nat} : greI cp inf m J 40 19 = 0 := (congrFun (fr_lays (by decide)) 19).trans mw_up_at
theorem s_bestEnergyByAll : st_bestEnergyByAll lwR := by
  intro l I L x1 hr
  by_cases g1 : okR x1 1 6
  · obtain ⟨q, hq0, hq, rfl⟩ := okR_nat1 (n := 6) (by decide) g1
    obtain ⟨m, rfl⟩ : ∃ m, q = m + 1 := ⟨q - 1, by omega⟩
    obtain ⟨mx, cp, bs, mn, inf, w, hx, ex, ec, ⟨c1, c2, c3⟩, ⟨b1, b2, b3⟩, ⟨n1, n2, n3⟩, ⟨i1, i2, i3⟩, hw, w1, w2⟩ := lw_facts hr
    refine ⟨0, greI cp inf m I 58 (260 * (m + 1) + w), I, greI cp inf m I, mw_upL L 59 0 (gbtV I (7 + 11 * 0) (m + 1) (waterV I (7 + 11 * 0))).toInt64, 5, by decide, w_bestEnergyByAll l _ _ _ _ (by decide) (by decide) (by decide) (c_bestEnergyByAll l m (by omega) mn n3 I n2 L), c_m_bestEnergyByAll l cp c3 inf i3 w hw m (by omega) I c1 i1 w1 _, gre_t, fun _ => st_q L ?_, lwR_best hr (fun _ _ _ => rfl)⟩
    rw [gre_nat (by omega) hx ex b1 n1 n3 b3 c3 i3 hw, w2, gbt_nat hx ec b2 c2 n2 i2 b3 c3 n3 i3 (m + 1) (by omega) w hw]
  · exact ⟨1, 0, I, mw_up I 40 19 1, L, 5, by decide, w_bestEnergyByAllX l _ _ _ _ (by decide) (by decide) (by decide) (c_bestEnergyByAllX l x1 g1 I L), c_m_bestEnergyByAllX l x1 g1 I L, mw_up_at, fun h => absurd h (by decide), lwR_t 1 hr⟩
