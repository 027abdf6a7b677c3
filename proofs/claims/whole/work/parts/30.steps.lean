/-! each step keeps the relation and gives one answer: the simple ones (by program: wip/whole/gen30.py) -/
theorem mw_upL_at {L : mw_L} {k j : Nat} {x : Int64} : mw_upL L k j x k j = x := by
  unfold mw_upL vp_updL
  rw [if_pos rfl, if_pos rfl]
theorem st_q {u b0 : Int32} (L : mw_L) (h : u = b0) : mw_upL L 59 0 u.toInt64 59 0 = b0.toInt64 := by rw [mw_upL_at, h]
theorem okR_nat1 {v : Int32} {n : Nat} (hn : n < 2 ^ 31) (h : okR v 1 (nI n)) : ∃ i : Nat, 1 ≤ i ∧ i < n + 1 ∧ v = nI i := by
  obtain ⟨h1, h2⟩ := h
  have h0 : ¬ v < 0 := fun q => h1 (by
    rw [Int32.lt_iff_toInt_lt] at q ⊢
    have e0 : (0 : Int32).toInt = 0 := rfl
    have e1 : (1 : Int32).toInt = 1 := rfl
    omega)
  obtain ⟨j, hj, rfl⟩ := nI_of h0
  refine ⟨j, ?_, Nat.lt_succ_of_le ((nI_leI hj hn).mp h2), rfl⟩
  rcases Nat.eq_zero_or_pos j with rfl | q
  · exact absurd (by decide) h1
  · exact q
theorem lwR.A {I : mw_I} (h : lwR I) : relA I I := by obtain ⟨_, _, _, _, h⟩ := h; exact h.1
theorem lwR.H {I : mw_I} (h : lwR I) : I 0 6 = I 40 10 := by obtain ⟨_, _, h1, h2, _⟩ := h; rw [h1, h2]
theorem relA.F {C M : mw_I} (h : relA C M) : relF C M := h.1
theorem relA.O {C M : mw_I} (h : relA C M) : relO C M := h.2.1
theorem relA.Y {C M : mw_I} (h : relA C M) : relY C M := h.2.2.1
theorem relA.W {C M : mw_I} (h : relA C M) : relW C M := h.2.2.2.1
theorem relA.X {C M : mw_I} (h : relA C M) : relX C M := h.2.2.2.2.1
theorem relA.bF {C M : mw_I} (h : relA C M) : bndF M := h.2.2.2.2.2.1
theorem relA.bO {C M : mw_I} (h : relA C M) : bndO M := h.2.2.2.2.2.2.1
theorem relA.bY {C M : mw_I} (h : relA C M) : bndY M := h.2.2.2.2.2.2.2.1
theorem relA.bW {C M : mw_I} (h : relA C M) : bndW M := h.2.2.2.2.2.2.2.2
theorem tt_ne {I : mw_I} {a j : Nat} (h : a ≠ 40) (x : Int32) : mw_up I 40 19 x a j = I a j := by rw [mw_up_ne h]
theorem s_hour : st_hour lwR := fun I hr => ⟨hr.H, lwR_t 0 hr⟩
theorem s_account : st_account lwR := by
  intro l I L x1 x2 hr
  have hA := hr.A
  by_cases hq : okR x1 0 2 ∧ okR x2 0 1
  · obtain ⟨g1, g2⟩ := hq
    obtain ⟨i, hi, rfl⟩ := okR_nat (n := 2) (by decide) g1
    obtain ⟨o, ho, rfl⟩ := okR_nat (n := 1) (by decide) g2
    refine ⟨0, (mw_up I 40 19 0) 49 (2 * i + o), I, (mw_up I 40 19 0), mw_upL L 59 0 (I ((7 + 11 * i) + 2) o).toInt64, 4, by decide, w_account l _ _ _ _ _ (by decide) (by decide) (by decide) (c_account l i hi o ho I L), c_m_account l i hi o ho I _, ?_, fun _ => st_q L ?_, ?_⟩
    · exact mw_up_at
    · rw [tt_ne (by decide)]; exact (hA.O i hi o ho).2
    · exact lwR_t 0 hr
  · exact ⟨1, 0, I, mw_up I 40 19 1, L, 4, by decide, w_accountX l _ _ _ _ _ (by decide) (by decide) (by decide) (c_accountX l x1 x2 hq I L), c_m_accountX l x1 x2 hq I L, mw_up_at, fun h => absurd h (by decide), lwR_t 1 hr⟩
theorem s_level : st_level lwR := by
  intro l I L x1 hr
  have hA := hr.A
  by_cases hq : okR x1 0 2
  · have g1 := hq
    obtain ⟨i, hi, rfl⟩ := okR_nat (n := 2) (by decide) g1
    refine ⟨0, filledV (mw_up I 40 19 0) i, I, (mw_up I 40 19 0), mw_upL L 59 0 (waterV I (7 + 11 * i)).toInt64, 4, by decide, w_level l _ _ _ _ (by decide) (by decide) (by decide) (c_level l i hi I L), c_m_level l i hi I _, ?_, fun _ => st_q L ?_, ?_⟩
    · exact mw_up_at
    · rw [filledV_eq (mw_up_ne (by decide)), waterV, filledV, (hA.O i hi 0 (by decide)).2, (hA.O i hi 1 (by decide)).2]; rfl
    · exact lwR_t 0 hr
  · exact ⟨1, 0, I, mw_up I 40 19 1, L, 4, by decide, w_levelX l _ _ _ _ (by decide) (by decide) (by decide) (c_levelX l x1 hq I L), c_m_levelX l x1 hq I L, mw_up_at, fun h => absurd h (by decide), lwR_t 1 hr⟩
theorem s_cameIn : st_cameIn lwR := by
  intro l I L x1 hr
  have hA := hr.A
  by_cases hq : okR x1 0 1
  · have g1 := hq
    obtain ⟨o, ho, rfl⟩ := okR_nat (n := 1) (by decide) g1
    refine ⟨0, (mw_up I 40 19 0) 51 o, I, (mw_up I 40 19 0), mw_upL L 59 0 (I 2 o).toInt64, 4, by decide, w_cameIn l _ _ _ _ (by decide) (by decide) (by decide) (c_cameIn l o ho I L), c_m_cameIn l o ho I _, ?_, fun _ => st_q L ?_, ?_⟩
    · exact mw_up_at
    · rw [tt_ne (by decide)]; exact (hA.W o ho).1
    · exact lwR_t 0 hr
  · exact ⟨1, 0, I, mw_up I 40 19 1, L, 4, by decide, w_cameInX l _ _ _ _ (by decide) (by decide) (by decide) (c_cameInX l x1 hq I L), c_m_cameInX l x1 hq I L, mw_up_at, fun h => absurd h (by decide), lwR_t 1 hr⟩
theorem s_gone : st_gone lwR := by
  intro l I L x1 hr
  have hA := hr.A
  by_cases hq : okR x1 0 1
  · have g1 := hq
    obtain ⟨o, ho, rfl⟩ := okR_nat (n := 1) (by decide) g1
    refine ⟨0, (mw_up I 40 19 0) 52 o, I, (mw_up I 40 19 0), mw_upL L 59 0 (I 3 o).toInt64, 4, by decide, w_gone l _ _ _ _ (by decide) (by decide) (by decide) (c_gone l o ho I L), c_m_gone l o ho I _, ?_, fun _ => st_q L ?_, ?_⟩
    · exact mw_up_at
    · rw [tt_ne (by decide)]; exact (hA.W o ho).2.1
    · exact lwR_t 0 hr
  · exact ⟨1, 0, I, mw_up I 40 19 1, L, 4, by decide, w_goneX l _ _ _ _ (by decide) (by decide) (by decide) (c_goneX l x1 hq I L), c_m_goneX l x1 hq I L, mw_up_at, fun h => absurd h (by decide), lwR_t 1 hr⟩
theorem s_balance : st_balance lwR := by
  intro l I L x1 hr
  have hA := hr.A
  by_cases hq : okR x1 0 1
  · have g1 := hq
    obtain ⟨o, ho, rfl⟩ := okR_nat (n := 1) (by decide) g1
    refine ⟨0, (mw_up I 40 19 0) 51 o - (mw_up I 40 19 0) 52 o - (mw_up I 40 19 0) 53 o, I, (mw_up I 40 19 0), mw_upL L 59 0 (I 2 o - I 3 o + I 4 o).toInt64, 4, by decide, w_balance l _ _ _ _ (by decide) (by decide) (by decide) (c_balance l o ho I L), c_m_balance l o ho I _, ?_, fun _ => st_q L ?_, ?_⟩
    · exact mw_up_at
    · rw [tt_ne (by decide), tt_ne (by decide), tt_ne (by decide), (hA.W o ho).1, (hA.W o ho).2.1, (hA.W o ho).2.2, Int32.sub_eq_add_neg (I 51 o - I 52 o)]
    · exact lwR_t 0 hr
  · exact ⟨1, 0, I, mw_up I 40 19 1, L, 4, by decide, w_balanceX l _ _ _ _ (by decide) (by decide) (by decide) (c_balanceX l x1 hq I L), c_m_balanceX l x1 hq I L, mw_up_at, fun h => absurd h (by decide), lwR_t 1 hr⟩
theorem s_spilled : st_spilled lwR := by
  intro l I L x1 hr
  have hA := hr.A
  by_cases hq : okR x1 0 2
  · have g1 := hq
    obtain ⟨i, hi, rfl⟩ := okR_nat (n := 2) (by decide) g1
    refine ⟨0, (mw_up I 40 19 0) 54 i, I, (mw_up I 40 19 0), mw_upL L 59 0 (I (7 + 11 * i) 12).toInt64, 4, by decide, w_spilled l _ _ _ _ (by decide) (by decide) (by decide) (c_spilled l i hi I L), c_m_spilled l i hi I _, ?_, fun _ => st_q L ?_, ?_⟩
    · exact mw_up_at
    · rw [tt_ne (by decide)]; exact hA.F i hi (12, 54) (by decide)
    · exact lwR_t 0 hr
  · exact ⟨1, 0, I, mw_up I 40 19 1, L, 4, by decide, w_spilledX l _ _ _ _ (by decide) (by decide) (by decide) (c_spilledX l x1 hq I L), c_m_spilledX l x1 hq I L, mw_up_at, fun h => absurd h (by decide), lwR_t 1 hr⟩
theorem s_missed : st_missed lwR := by
  intro l I L x1 hr
  have hA := hr.A
  by_cases hq : okR x1 0 2
  · have g1 := hq
    obtain ⟨i, hi, rfl⟩ := okR_nat (n := 2) (by decide) g1
    refine ⟨0, (mw_up I 40 19 0) 55 i, I, (mw_up I 40 19 0), mw_upL L 59 0 (I (7 + 11 * i) 13).toInt64, 4, by decide, w_missed l _ _ _ _ (by decide) (by decide) (by decide) (c_missed l i hi I L), c_m_missed l i hi I _, ?_, fun _ => st_q L ?_, ?_⟩
    · exact mw_up_at
    · rw [tt_ne (by decide)]; exact hA.F i hi (13, 55) (by decide)
    · exact lwR_t 0 hr
  · exact ⟨1, 0, I, mw_up I 40 19 1, L, 4, by decide, w_missedX l _ _ _ _ (by decide) (by decide) (by decide) (c_missedX l x1 hq I L), c_m_missedX l x1 hq I L, mw_up_at, fun h => absurd h (by decide), lwR_t 1 hr⟩
theorem s_flow : st_flow lwR := by
  intro l I L x1 hr
  have hA := hr.A
  by_cases hq : okR x1 0 2
  · have g1 := hq
    obtain ⟨i, hi, rfl⟩ := okR_nat (n := 2) (by decide) g1
    refine ⟨0, (mw_up I 40 19 0) 56 i, I, (mw_up I 40 19 0), mw_upL L 59 0 (I (7 + 11 * i) 14).toInt64, 4, by decide, w_flow l _ _ _ _ (by decide) (by decide) (by decide) (c_flow l i hi I L), c_m_flow l i hi I _, ?_, fun _ => st_q L ?_, ?_⟩
    · exact mw_up_at
    · rw [tt_ne (by decide)]; exact hA.F i hi (14, 56) (by decide)
    · exact lwR_t 0 hr
  · exact ⟨1, 0, I, mw_up I 40 19 1, L, 4, by decide, w_flowX l _ _ _ _ (by decide) (by decide) (by decide) (c_flowX l x1 hq I L), c_m_flowX l x1 hq I L, mw_up_at, fun h => absurd h (by decide), lwR_t 1 hr⟩
theorem s_energy : st_energy lwR := by
  intro l I L x1 hr
  have hA := hr.A
  by_cases hq : okR x1 0 2
  · have g1 := hq
    obtain ⟨i, hi, rfl⟩ := okR_nat (n := 2) (by decide) g1
    refine ⟨0, (mw_up I 40 19 0) 57 i, I, (mw_up I 40 19 0), mw_upL L 59 0 (I (7 + 11 * i) 15).toInt64, 4, by decide, w_energy l _ _ _ _ (by decide) (by decide) (by decide) (c_energy l i hi I L), c_m_energy l i hi I _, ?_, fun _ => st_q L ?_, ?_⟩
    · exact mw_up_at
    · rw [tt_ne (by decide)]; exact hA.F i hi (15, 57) (by decide)
    · exact lwR_t 0 hr
  · exact ⟨1, 0, I, mw_up I 40 19 1, L, 4, by decide, w_energyX l _ _ _ _ (by decide) (by decide) (by decide) (c_energyX l x1 hq I L), c_m_energyX l x1 hq I L, mw_up_at, fun h => absurd h (by decide), lwR_t 1 hr⟩
theorem s_mix : st_mix lwR := by
  intro l I L x1 x2 hr
  have hA := hr.A
  by_cases hq : okR x1 0 2 ∧ okR x2 0 16
  · obtain ⟨g1, g2⟩ := hq
    obtain ⟨i, hi, rfl⟩ := okR_nat (n := 2) (by decide) g1
    obtain ⟨f, hf, ef⟩ := okR_nat (n := 16) (by decide) g2
    refine ⟨0, mixedV (mw_up I 40 19 0) i x2, I, (mw_up I 40 19 0), mw_upL L 59 0 (mixForV I (7 + 11 * i) x2).toInt64, 4, by decide, w_mix l _ _ _ _ _ (by decide) (by decide) (by decide) (c_mix l i hi x2 g2 I L), c_m_mix l i hi x2 g2 I _, ?_, fun _ => st_q L ?_, ?_⟩
    · exact mw_up_at
    · rw [mixedV_eq (mw_up_ne (by decide)), ef, mixForV, if_neg, nI_clamp (by omega)]
      · exact hA.X i hi f hf
      · rintro (z | z)
        · exact nI_pos (by omega) z
        · exact absurd z (Int32.not_lt.mpr (nI_le (a := f) (b := 16) (by omega) (by decide)))
    · exact lwR_t 0 hr
  · exact ⟨1, 0, I, mw_up I 40 19 1, L, 4, by decide, w_mixX l _ _ _ _ _ (by decide) (by decide) (by decide) (c_mixX l x1 x2 hq I L), c_m_mixX l x1 x2 hq I L, mw_up_at, fun h => absurd h (by decide), lwR_t 1 hr⟩
theorem tt_cm {I : mw_I} {x : Int32} {k j : Nat} {a : Int32} (h : k ≠ 40) : mw_up (mw_up I 40 19 x) k j a = mw_up (mw_up I k j a) 40 19 x := by
  funext b c
  rw [mw_up_ap, mw_up_ap, mw_up_ap, mw_up_ap]
  by_cases h1 : b = k ∧ c = j
  · rw [if_pos h1, if_neg (fun z => h (h1.1.symm.trans z.1)), if_pos h1]
  · rw [if_neg h1, if_neg h1]
theorem up_cm {I : mw_I} {k1 j1 k2 j2 : Nat} {x y : Int32} (h : k1 ≠ k2 ∨ j1 ≠ j2) : mw_up (mw_up I k1 j1 x) k2 j2 y = mw_up (mw_up I k2 j2 y) k1 j1 x := by
  funext b c
  rw [mw_up_ap, mw_up_ap, mw_up_ap, mw_up_ap]
  by_cases h1 : b = k2 ∧ c = j2
  · rw [if_pos h1, if_neg (fun z => by omega), if_pos h1]
  · rw [if_neg h1, if_neg h1]
/-- what the reference writes lies above, what the component writes below -/
theorem lwR_fld {I : mw_I} {i f m : Nat} {a : Int32} (hq : (f, m) ∈ rF) (hb : ∀ r ∈ rB, r.1 = m → ∃ v, v ≤ r.2 ∧ a = nI v) (hi : i < 3) (hr : lwR I) : lwR (mw_up (mw_up I (7 + 11 * i) f a) m i a) := by
  have hm := rF_not _ hq
  dsimp only at hm
  refine rel2_cong (C := mw_up I (7 + 11 * i) f a) (M := mw_up I m i a) (fun b hb2 _ _ => mw_up_ne (by omega)) (fun b h1 h2 => ?_) (by rw [mw_up_ne (by omega), mw_up_ne (by omega), mw_up_ne (by omega)]) (rel2_fld hq hb hi hr)
  by_cases e : b = m
  · subst e
    rw [mw_up_eq, mw_up_eq, mw_up_ne (by omega)]
  · rw [mw_up_ne e, mw_up_ne e, mw_up_ne (by omega)]
theorem lwR_ord {I : mw_I} {i o v : Nat} {a : Int32} (hi : i < 3) (ho : o < 2) (hv : v ≤ 30) (ha : a = nI v) (hr : lwR I) : lwR (mw_up (mw_up I (7 + 11 * i + 1) o a) 47 (2 * i + o) a) := by
  refine rel2_cong (C := mw_up I (7 + 11 * i + 1) o a) (M := mw_up I 47 (2 * i + o) a) (fun b hb2 _ _ => mw_up_ne (by omega)) (fun b h1 h2 => ?_) (by rw [mw_up_ne (by omega), mw_up_ne (by omega), mw_up_ne (by omega)]) (rel2_of hr (relA_ord hi ho hv ha) (by rw [mw_up_ne (by omega)]) (by rw [mw_up_ne (by omega)]) (fun i2 hi2 o2 ho2 => mw_up_ne (by omega)) (mw_up_ne (by omega)))
  by_cases e : b = 47
  · subst e
    rw [mw_up_eq, mw_up_eq, mw_up_ne (by omega)]
  · rw [mw_up_ne e, mw_up_ne e, mw_up_ne (by omega)]
theorem s_setMinimum : st_setMinimum lwR := by
  intro l I L x1 x2 hr
  have hA := hr.A
  by_cases hq : okR x1 0 2 ∧ okR x2 0 20
  · obtain ⟨g1, g2⟩ := hq
    obtain ⟨i, hi, rfl⟩ := okR_nat (n := 2) (by decide) g1
    obtain ⟨v, hv, ev⟩ := okR_nat (n := 20) (by decide) g2
    refine ⟨0, (mw_up (mw_up I (7 + 11 * i) 3 x2) 40 19 0) 46 i, mw_up I (7 + 11 * i) 3 x2, mw_up (mw_up (mw_up I (7 + 11 * i) 3 x2) 40 19 0) 46 i x2, mw_upL L 59 0 (I (7 + 11 * i) 3).toInt64, 4, by decide, w_setMinimum l _ _ _ _ _ (by decide) (by decide) (by decide) (c_setMinimum l i hi x2 g2 I L), c_m_setMinimum l i hi x2 g2 _ _, ?_, fun _ => st_q L ?_, ?_⟩
    · rw [mw_up_ne (by decide)]; exact mw_up_at
    · rw [tt_ne (by decide), mw_up_ne (by omega)]; exact hA.F i hi (3, 46) (by decide)
    · rw [tt_cm (by decide)]; exact lwR_t 0 (lwR_fld (by decide) (by intro r hr2 e; simp only [rB, List.mem_cons, List.not_mem_nil, or_false] at hr2; rcases hr2 with rfl | rfl | rfl | rfl | rfl | rfl <;> first | exact ⟨v, by omega, ev⟩ | exact absurd e (by decide)) hi hr)
  · exact ⟨1, 0, I, mw_up I 40 19 1, L, 4, by decide, w_setMinimumX l _ _ _ _ _ (by decide) (by decide) (by decide) (c_setMinimumX l x1 x2 hq I L), c_m_setMinimumX l x1 x2 hq I L, mw_up_at, fun h => absurd h (by decide), lwR_t 1 hr⟩
theorem s_order : st_order lwR := by
  intro l I L x1 x2 x3 hr
  have hA := hr.A
  by_cases hq : okR x1 0 2 ∧ okR x2 0 1 ∧ okR x3 0 30
  · obtain ⟨g1, g2, g3⟩ := hq
    obtain ⟨i, hi, rfl⟩ := okR_nat (n := 2) (by decide) g1
    obtain ⟨o, ho, rfl⟩ := okR_nat (n := 1) (by decide) g2
    obtain ⟨v, hv, ev⟩ := okR_nat (n := 30) (by decide) g3
    refine ⟨0, (mw_up (mw_up I ((7 + 11 * i) + 1) o x3) 40 19 0) 47 (2 * i + o), mw_up I ((7 + 11 * i) + 1) o x3, mw_up (mw_up (mw_up I ((7 + 11 * i) + 1) o x3) 40 19 0) 47 (2 * i + o) x3, mw_upL L 59 0 (I ((7 + 11 * i) + 1) o).toInt64, 4, by decide, w_order l _ _ _ _ _ _ (by decide) (by decide) (by decide) (c_order l i hi o ho x3 g3 I L), c_m_order l i hi o ho x3 g3 _ _, ?_, fun _ => st_q L ?_, ?_⟩
    · rw [mw_up_ne (by decide)]; exact mw_up_at
    · rw [tt_ne (by decide), mw_up_ne (by omega)]; exact (hA.O i hi o ho).1
    · rw [tt_cm (by decide)]; exact lwR_t 0 (lwR_ord hi ho (by omega) ev hr)
  · exact ⟨1, 0, I, mw_up I 40 19 1, L, 4, by decide, w_orderX l _ _ _ _ _ _ (by decide) (by decide) (by decide) (c_orderX l x1 x2 x3 hq I L), c_m_orderX l x1 x2 x3 hq I L, mw_up_at, fun h => absurd h (by decide), lwR_t 1 hr⟩
theorem s_setInflow : st_setInflow lwR := by
  intro l I L x1 x2 x3 hr
  have hA := hr.A
  by_cases hq : okR x1 0 2 ∧ okR x2 0 50 ∧ okR x3 0 100
  · obtain ⟨g1, g2, g3⟩ := hq
    obtain ⟨i, hi, rfl⟩ := okR_nat (n := 2) (by decide) g1
    obtain ⟨v, hv, ev⟩ := okR_nat (n := 50) (by decide) g2
    obtain ⟨w, hw, ew⟩ := okR_nat (n := 100) (by decide) g3
    refine ⟨0, (mw_up (mw_up (mw_up I (7 + 11 * i) 4 x2) (7 + 11 * i) 5 x3) 40 19 0) 44 i, mw_up (mw_up I (7 + 11 * i) 4 x2) (7 + 11 * i) 5 x3, mw_up (mw_up (mw_up (mw_up (mw_up I (7 + 11 * i) 4 x2) (7 + 11 * i) 5 x3) 40 19 0) 44 i x2) 45 i x3, mw_upL L 59 0 (I (7 + 11 * i) 4).toInt64, 4, by decide, w_setInflow l _ _ _ _ _ _ (by decide) (by decide) (by decide) (c_setInflow l i hi x2 x3 g2 g3 I L), c_m_setInflow l i hi x2 x3 g2 g3 _ _, ?_, fun _ => st_q L ?_, ?_⟩
    · rw [mw_up_ne (by decide), mw_up_ne (by decide)]; exact mw_up_at
    · rw [tt_ne (by decide), mw_up_ne (by omega), mw_up_ne (by omega)]; exact hA.F i hi (4, 44) (by decide)
    · rw [tt_cm (by decide), tt_cm (by decide), up_cm (k1 := 7 + 11 * i) (k2 := 44) (Or.inl (by omega))]; exact lwR_t 0 (lwR_fld (f := 5) (by decide) (by intro r hr2 e; simp only [rB, List.mem_cons, List.not_mem_nil, or_false] at hr2; rcases hr2 with rfl | rfl | rfl | rfl | rfl | rfl <;> first | exact ⟨w, by omega, ew⟩ | exact absurd e (by decide)) hi (lwR_fld (f := 4) (by decide) (by intro r hr2 e; simp only [rB, List.mem_cons, List.not_mem_nil, or_false] at hr2; rcases hr2 with rfl | rfl | rfl | rfl | rfl | rfl <;> first | exact ⟨v, by omega, ev⟩ | exact absurd e (by decide)) hi hr))
  · exact ⟨1, 0, I, mw_up I 40 19 1, L, 4, by decide, w_setInflowX l _ _ _ _ _ _ (by decide) (by decide) (by decide) (c_setInflowX l x1 x2 x3 hq I L), c_m_setInflowX l x1 x2 x3 hq I L, mw_up_at, fun h => absurd h (by decide), lwR_t 1 hr⟩
theorem s_setPond : st_setPond lwR := by
  intro l I L x1 x2 x3 x4 hr
  have hA := hr.A
  by_cases hq : okR x1 0 2 ∧ okR x2 1 200 ∧ okR x3 0 100 ∧ okR x4 0 5
  · obtain ⟨g1, g2, g3, g4⟩ := hq
    obtain ⟨i, hi, rfl⟩ := okR_nat (n := 2) (by decide) g1
    obtain ⟨u, -, hu, eu⟩ := okR_nat1 (n := 200) (by decide) g2
    obtain ⟨v, hv, ev⟩ := okR_nat (n := 100) (by decide) g3
    obtain ⟨w, hw, ew⟩ := okR_nat (n := 5) (by decide) g4
    refine ⟨0, mw_up (mw_up (mw_up I (7 + 11 * i) 0 x2) (7 + 11 * i) 1 x3) (7 + 11 * i) 2 x4, mw_up (mw_up (mw_up (mw_up (mw_up (mw_up (mw_up I (7 + 11 * i) 0 x2) (7 + 11 * i) 1 x3) (7 + 11 * i) 2 x4) 40 19 0) 41 i x2) 42 i x3) 43 i x4, L, 4, by decide, w_setPond l _ _ _ _ _ _ _ (by decide) (by decide) (by decide) (c_setPond l i hi x2 x3 x4 g2 g3 g4 I L), c_m_setPond l i hi x2 x3 x4 g2 g3 g4 _ _, ?_, ?_⟩
    · rw [mw_up_ne (by decide), mw_up_ne (by decide), mw_up_ne (by decide)]; exact mw_up_at
    · rw [tt_cm (by decide), tt_cm (by decide), tt_cm (by decide), up_cm (k1 := 7 + 11 * i) (j1 := 2) (k2 := 41) (Or.inl (by omega)), up_cm (k1 := 7 + 11 * i) (j1 := 1) (k2 := 41) (Or.inl (by omega)), up_cm (k1 := 7 + 11 * i) (j1 := 2) (k2 := 42) (Or.inl (by omega))]; exact lwR_t 0 (lwR_fld (f := 2) (by decide) (by intro r hr2 e; simp only [rB, List.mem_cons, List.not_mem_nil, or_false] at hr2; rcases hr2 with rfl | rfl | rfl | rfl | rfl | rfl <;> first | exact ⟨w, by omega, ew⟩ | exact absurd e (by decide)) hi (lwR_fld (f := 1) (by decide) (by intro r hr2 e; simp only [rB, List.mem_cons, List.not_mem_nil, or_false] at hr2; rcases hr2 with rfl | rfl | rfl | rfl | rfl | rfl <;> first | exact ⟨v, by omega, ev⟩ | exact absurd e (by decide)) hi (lwR_fld (f := 0) (by decide) (by intro r hr2 e; simp only [rB, List.mem_cons, List.not_mem_nil, or_false] at hr2; rcases hr2 with rfl | rfl | rfl | rfl | rfl | rfl <;> first | exact ⟨u, by omega, eu⟩ | exact absurd e (by decide)) hi hr)))
  · exact ⟨1, I, mw_up I 40 19 1, L, 4, by decide, w_setPondX l _ _ _ _ _ _ _ (by decide) (by decide) (by decide) (c_setPondX l x1 x2 x3 x4 hq I L), c_m_setPondX l x1 x2 x3 x4 hq I L, mw_up_at, lwR_t 1 hr⟩
