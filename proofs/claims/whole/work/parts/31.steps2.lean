/-! each step keeps the relation: arriving, travelling, lend (by program: wip/whole/gen31.py) -/
theorem arrive_eq {I : mw_I} {i o t h : Nat} (hr : relP I I h 0) (hh : h ≤ 200) (hi : i < 3) (ho : o < 2) : arriveV I (7 + 11 * i) o t h = if t ≤ 209 then I 50 (210 * (2 * i + o) + t) else 0 := by
  obtain ⟨-, hU, hZ, -, -⟩ := hr
  unfold arriveV
  by_cases h1 : t < h ∨ h + 5 < t
  · rw [if_pos h1]
    split
    · exact (hZ i hi o ho t (by omega) (by omega)).symm
    · rfl
  · rw [if_neg h1, if_pos (by omega)]
    have := hU i hi o ho (t - h) (by omega)
    rw [show h + (t - h) = t by omega] at this
    exact this
theorem sum_z {g : Nat → Int32} {s x : Int32} {a : Nat} : ∀ n : Nat, (∀ k, a ≤ k → k < a + n → g k = 0) → lpN (fun k z => z + g k) a s = x → lpN (fun k z => z + g k) (a + n) s = x
  | 0, _, h => h
  | n + 1, hz, h => by
    show lpN (fun k z => z + g k) (a + n) s + g (a + n) = x
    rw [sum_z n (fun k h1 h2 => hz k h1 (by omega)) h, hz (a + n) (by omega) (by omega), Int32.add_zero]
theorem trav_eq {I : mw_I} {i o h : Nat} (hr : relP I I h 0) (hh : h ≤ 200) (hi : i < 3) (ho : o < 2) : sumV I (7 + 11 * i) o = travV I i o 210 := by
  obtain ⟨-, hU, hZ, -, -⟩ := hr
  have hU := hU i hi o ho
  have hZ := hZ i hi o ho
  unfold travV sumV
  generalize hg : (fun k => I 50 (210 * (2 * i + o) + k)) = g
  generalize hrr : I (7 + 11 * i + 5 + o) = r at hU ⊢
  have eg : ∀ k, I 50 (210 * (2 * i + o) + k) = g k := fun k => by rw [← hg]
  simp only [eg] at hU hZ ⊢
  have h0 : lpN (fun k z => z + g k) (0 + h) 0 = 0 := sum_z h (fun k _ h2 => hZ k (by omega) (Or.inl (by omega))) rfl
  rw [Nat.zero_add] at h0
  have h6 : lpN (fun k z => z + g k) (h + 6) 0 = 0 + g h + g (h + 1) + g (h + 2) + g (h + 3) + g (h + 4) + g (h + 5) := by
    show lpN (fun k z => z + g k) h 0 + g h + g (h + 1) + g (h + 2) + g (h + 3) + g (h + 4) + g (h + 5) = _
    rw [h0]
  have h7 := sum_z (204 - h) (fun k h1 h2 => hZ k (by omega) (Or.inr h1)) h6
  rw [show h + 6 + (204 - h) = 210 by omega] at h7
  rw [h7]
  show 0 + r 0 + r 1 + r 2 + r 3 + r 4 + r 5 = _
  have e0 := hU 0 (by decide)
  have e1 := hU 1 (by decide)
  have e2 := hU 2 (by decide)
  have e3 := hU 3 (by decide)
  have e4 := hU 4 (by decide)
  have e5 := hU 5 (by decide)
  rw [Nat.add_zero] at e0
  rw [← e0, ← e1, ← e2, ← e3, ← e4, ← e5]
  rcases (by omega : h % 6 = 0 ∨ h % 6 = 1 ∨ h % 6 = 2 ∨ h % 6 = 3 ∨ h % 6 = 4 ∨ h % 6 = 5) with q | q | q | q | q | q
  · rw [show (h + 1) % 6 = 1 by omega, show (h + 2) % 6 = 2 by omega, show (h + 3) % 6 = 3 by omega, show (h + 4) % 6 = 4 by omega, show (h + 5) % 6 = 5 by omega, q]
  · rw [show (h + 1) % 6 = 2 by omega, show (h + 2) % 6 = 3 by omega, show (h + 3) % 6 = 4 by omega, show (h + 4) % 6 = 5 by omega, show (h + 5) % 6 = 0 by omega, q]
    ac_rfl
  · rw [show (h + 1) % 6 = 3 by omega, show (h + 2) % 6 = 4 by omega, show (h + 3) % 6 = 5 by omega, show (h + 4) % 6 = 0 by omega, show (h + 5) % 6 = 1 by omega, q]
    ac_rfl
  · rw [show (h + 1) % 6 = 4 by omega, show (h + 2) % 6 = 5 by omega, show (h + 3) % 6 = 0 by omega, show (h + 4) % 6 = 1 by omega, show (h + 5) % 6 = 2 by omega, q]
    ac_rfl
  · rw [show (h + 1) % 6 = 5 by omega, show (h + 2) % 6 = 0 by omega, show (h + 3) % 6 = 1 by omega, show (h + 4) % 6 = 2 by omega, show (h + 5) % 6 = 3 by omega, q]
    ac_rfl
  · rw [show (h + 1) % 6 = 0 by omega, show (h + 2) % 6 = 1 by omega, show (h + 3) % 6 = 2 by omega, show (h + 4) % 6 = 3 by omega, show (h + 5) % 6 = 4 by omega, q]
    ac_rfl
theorem s_travelling : st_travelling lwR := by
  intro l I L x1 x2 hr
  have hA := hr.A
  by_cases hq : okR x1 1 2 ∧ okR x2 0 1
  · obtain ⟨g1, g2⟩ := hq
    obtain ⟨i, hi0, hi, rfl⟩ := okR_nat1 (n := 2) (by decide) g1
    obtain ⟨o, ho, rfl⟩ := okR_nat (n := 1) (by decide) g2
    obtain ⟨h, hh, hH, hH2, hP⟩ := id hr
    refine ⟨0, travV (mw_up I 40 19 0) i o 210, I, (mw_up I 40 19 0), mw_upL L 59 0 (sumV I (7 + 11 * i) o).toInt64, 4, by decide, w_travelling l _ _ _ _ _ (by decide) (by decide) (by decide) (c_travelling l i hi0 hi o ho I L), c_m_travelling l i hi0 hi o ho I _, ?_, fun _ => st_q L ?_, ?_⟩
    · exact mw_up_at
    · rw [trav_eq hP hh hi ho, travV, travV, mw_up_ne (by decide)]
    · exact lwR_t 0 hr
  · exact ⟨1, 0, I, mw_up I 40 19 1, L, 4, by decide, w_travellingX l _ _ _ _ _ (by decide) (by decide) (by decide) (c_travellingX l x1 x2 hq I L), c_m_travellingX l x1 x2 hq I L, mw_up_at, fun h => absurd h (by decide), lwR_t 1 hr⟩
theorem s_arriving : st_arriving lwR := by
  intro l I L x1 x2 x3 hr
  have hA := hr.A
  by_cases hq : okR x1 1 2 ∧ okR x2 0 1 ∧ okR x3 0 300
  · obtain ⟨g1, g2, g3⟩ := hq
    obtain ⟨i, hi0, hi, rfl⟩ := okR_nat1 (n := 2) (by decide) g1
    obtain ⟨o, ho, rfl⟩ := okR_nat (n := 1) (by decide) g2
    obtain ⟨t, ht, rfl⟩ := okR_nat (n := 300) (by decide) g3
    obtain ⟨h, hh, hH, hH2, hP⟩ := id hr
    refine ⟨0, (if t ≤ 209 then (mw_up I 40 19 0) 50 (210 * (2 * i + o) + t) else 0), I, (mw_up I 40 19 0), mw_upL L 59 0 (arriveV I (7 + 11 * i) o t h).toInt64, 4, by decide, w_arriving l _ _ _ _ _ _ (by decide) (by decide) (by decide) (c_arriving l I i hi0 hi o ho t ht h (by omega) hH L), c_m_arriving l i hi0 hi o ho t ht I _, ?_, fun _ => st_q L ?_, ?_⟩
    · exact mw_up_at
    · rw [arrive_eq hP hh hi ho, mw_up_ne (by decide)]
    · exact lwR_t 0 hr
  · exact ⟨1, 0, I, mw_up I 40 19 1, L, 4, by decide, w_arrivingX l _ _ _ _ _ _ (by decide) (by decide) (by decide) (c_arrivingX l x1 x2 x3 hq I L), c_m_arrivingX l x1 x2 x3 hq I L, mw_up_at, fun h => absurd h (by decide), lwR_t 1 hr⟩
section
variable {C M : mw_I} {b i o q : Nat} {a : Int32}
theorem le_ne {k : Nat} (h : k ≠ b + 2) (h2 : k ≠ 4) : lendI C b o q a k = C k := by
  unfold lendI
  rw [mw_up_ne h2, mw_up_ne h2, mw_up_ne h, mw_up_ne h]
theorem le_o (hb : b + 2 ≠ 4) (hq : q ≠ o) : lendI C b o q a (b + 2) o = C (b + 2) o - a := by
  unfold lendI
  rw [mw_up_ne hb, mw_up_ne hb, mw_up_nj hq.symm, mw_up_at]
theorem le_q (hb : b + 2 ≠ 4) (hq : q ≠ o) : lendI C b o q a (b + 2) q = C (b + 2) q + a := by
  unfold lendI
  rw [mw_up_ne hb, mw_up_ne hb, mw_up_at, mw_up_nj hq]
theorem le_4o (hb : b + 2 ≠ 4) (hq : q ≠ o) : lendI C b o q a 4 o = C 4 o - a := by
  unfold lendI
  rw [mw_up_nj hq.symm, mw_up_at, mw_up_ne hb.symm, mw_up_ne hb.symm]
theorem le_4q (hb : b + 2 ≠ 4) (hq : q ≠ o) : lendI C b o q a 4 q = C 4 q + a := by
  unfold lendI
  rw [mw_up_at, mw_up_nj hq, mw_up_ne hb.symm, mw_up_ne hb.symm]
theorem ml_ne {k : Nat} (h : k ≠ 49) (h2 : k ≠ 53) : mlendI M i o a k = M k := by
  unfold mlendI
  rw [mw_up_ne h2, mw_up_ne h2, mw_up_ne h, mw_up_ne h]
theorem ml_k {k : Nat} (h1 : k ≠ 2 * i + o) (h2 : k ≠ 2 * i + 1 - o) : mlendI M i o a 49 k = M 49 k := by
  unfold mlendI
  rw [mw_up_ne (show 49 ≠ 53 by decide), mw_up_ne (show 49 ≠ 53 by decide), mw_up_nj h2, mw_up_nj h1]
theorem ml_o (ho : o < 2) : mlendI M i o a 49 (2 * i + o) = M 49 (2 * i + o) - a := by
  unfold mlendI
  rw [mw_up_ne (show 49 ≠ 53 by decide), mw_up_ne (show 49 ≠ 53 by decide), mw_up_nj (by omega), mw_up_at]
theorem ml_q (ho : o < 2) : mlendI M i o a 49 (2 * i + 1 - o) = M 49 (2 * i + 1 - o) + a := by
  unfold mlendI
  rw [mw_up_ne (show 49 ≠ 53 by decide), mw_up_ne (show 49 ≠ 53 by decide), mw_up_at, mw_up_nj (by omega)]
theorem ml_4o (ho : o < 2) : mlendI M i o a 53 o = M 53 o + a := by
  unfold mlendI
  rw [mw_up_nj (by omega), mw_up_at, mw_up_ne (show 53 ≠ 49 by decide), mw_up_ne (show 53 ≠ 49 by decide)]
theorem ml_4q (ho : o < 2) : mlendI M i o a 53 (1 - o) = M 53 (1 - o) - a := by
  unfold mlendI
  rw [mw_up_at, mw_up_nj (by omega), mw_up_ne (show 53 ≠ 49 by decide), mw_up_ne (show 53 ≠ 49 by decide)]
theorem fil_lend (ho : o < 2) (i2 : Nat) : filledV (mlendI M i o a) i2 = filledV M i2 := by
  unfold filledV
  by_cases e : i2 = i
  · subst e
    have e1 : mlendI M i2 o a 49 (2 * i2 + o) = M 49 (2 * i2 + o) - a := ml_o ho
    have e2 : mlendI M i2 o a 49 (2 * i2 + 1 - o) = M 49 (2 * i2 + 1 - o) + a := ml_q ho
    rcases (by omega : o = 0 ∨ o = 1) with rfl | rfl
    · rw [Nat.add_zero] at e1
      rw [Nat.sub_zero] at e2
      rw [e1, e2, Int32.sub_eq_add_neg, Int32.add_assoc, ← Int32.add_assoc (-a), Int32.add_comm (-a), Int32.add_assoc, Int32.add_left_neg, Int32.add_zero]
    · rw [Nat.add_sub_cancel] at e2
      rw [e1, e2, Int32.sub_eq_add_neg, Int32.add_assoc, Int32.add_comm a, Int32.add_assoc, Int32.add_left_neg, Int32.add_zero]
  · rw [ml_k (by omega) (by omega), ml_k (by omega) (by omega)]
end
theorem relA_lend {C M : mw_I} {i o : Nat} {a : Int32} (hi : i < 3) (ho : o < 2) (hr : relA C M) : relA (lendI C (7 + 11 * i) o (1 - o) a) (mlendI M i o a) := by
  obtain ⟨h1, h2, h3, h4, h5, h6, h7, h8, h9⟩ := hr
  have hb : ∀ q ∈ rB, q.1 ≠ 49 ∧ q.1 ≠ 53 := by decide
  refine ⟨fun i2 hi2 q hq2 => ?_, fun i2 hi2 o2 ho2 => ⟨?_, ?_⟩, fun i2 hi2 t ht f hf => ?_, fun o2 ho2 => ⟨?_, ?_, ?_⟩, fun i2 hi2 f hf => ?_, fun i2 hi2 q hq2 => ?_, fun k hk => ?_, fun k hk => ?_, fun i2 hi2 => ?_⟩
  · have hm := rF_not _ hq2
    rw [le_ne (by omega) (by omega), ml_ne (by omega) (by omega)]; exact h1 i2 hi2 q hq2
  · rw [le_ne (by omega) (by omega), ml_ne (by omega) (by omega)]; exact (h2 i2 hi2 o2 ho2).1
  · by_cases e : i2 = i
    · subst e
      by_cases e2 : o2 = o
      · subst e2
        rw [le_o (by omega) (by omega), ml_o ho, (h2 i2 hi2 o2 ho2).2]
      · have e3 : o2 = 1 - o := by omega
        subst e3
        have := ml_q (M := M) (i := i2) (a := a) ho
        rw [show 2 * i2 + 1 - o = 2 * i2 + (1 - o) by omega] at this
        rw [le_q (by omega) (by omega), this, (h2 i2 hi2 (1 - o) ho2).2]
    · rw [le_ne (by omega) (by omega), ml_k (by omega) (by omega)]; exact (h2 i2 hi2 o2 ho2).2
  · rw [le_ne (by omega) (by omega), ml_ne (by omega) (by omega)]; exact h3 i2 hi2 t ht f hf
  · rw [le_ne (by omega) (by omega), ml_ne (by omega) (by omega)]; exact (h4 o2 ho2).1
  · rw [le_ne (by omega) (by omega), ml_ne (by omega) (by omega)]; exact (h4 o2 ho2).2.1
  · by_cases e2 : o2 = o
    · subst e2
      rw [le_4o (by omega) (by omega), ml_4o ho, (h4 o2 ho2).2.2, Int32.neg_add, Int32.sub_eq_add_neg]
    · have e3 : o2 = 1 - o := by omega
      subst e3
      rw [le_4q (by omega) (by omega), ml_4q ho, (h4 (1 - o) ho2).2.2, Int32.neg_sub, Int32.sub_eq_add_neg, Int32.add_comm]
  · rw [le_ne (by omega) (by omega), mixedV_eq (ml_ne (by omega) (by omega))]; exact h5 i2 hi2 f hf
  · rw [ml_ne (hb q hq2).1 (hb q hq2).2]; exact h6 i2 hi2 q hq2
  · rw [ml_ne (by omega) (by omega)]; exact h7 k hk
  · rw [ml_ne (by omega) (by omega)]; exact h8 k hk
  · rw [fil_lend ho]; exact h9 i2 hi2
/-- what holds of a pair holds of one memory that has both halves -/
theorem lwR_two {C M K : mw_I} (hr : rel2 C M) (hC : ∀ a, a < 40 → a ≠ 5 → a ≠ 6 → K a = C a) (hM : ∀ a, 41 ≤ a → a < 58 → K a = M a) (h40 : K 40 10 = M 40 10) : lwR K := rel2_cong hC hM h40 hr
theorem ml_agree {J M : mw_I} {i o : Nat} {a : Int32} (h49 : J 49 = M 49) (h53 : J 53 = M 53) {k : Nat} (hk : J k = M k) : mlendI J i o a k = mlendI M i o a k := by
  funext c
  simp only [mlendI, mw_up_ap, h49, h53, hk]
theorem s_lend : st_lend lwR := by
  intro l I L x1 x2 x3 hr
  have hA := hr.A
  by_cases hq : okR x1 0 2 ∧ okR x2 0 1 ∧ okR x3 1 100
  · obtain ⟨g1, g2, g3⟩ := hq
    obtain ⟨i, hi, rfl⟩ := okR_nat (n := 2) (by decide) g1
    obtain ⟨o, ho, rfl⟩ := okR_nat (n := 1) (by decide) g2
    have hac := (hA.O i hi o ho).2
    by_cases hle : x3 ≤ I (7 + 11 * i + 2) o
    · have j49 : lendI I (7 + 11 * i) o (1 - o) x3 49 = I 49 := le_ne (by omega) (by omega)
      have j53 : lendI I (7 + 11 * i) o (1 - o) x3 53 = I 53 := le_ne (by omega) (by omega)
      have hle2 : x3 ≤ lendI I (7 + 11 * i) o (1 - o) x3 49 (2 * i + o) := by rw [j49, ← hac]; exact hle
      refine ⟨0, mlendI (mw_up (lendI I (7 + 11 * i) o (1 - o) x3) 40 19 0) i o x3 49 (2 * i + o), lendI I (7 + 11 * i) o (1 - o) x3, mlendI (mw_up (lendI I (7 + 11 * i) o (1 - o) x3) 40 19 0) i o x3, mw_upL L 59 0 (lendI I (7 + 11 * i) o (1 - o) x3 (7 + 11 * i + 2) o).toInt64, 4, by decide, w_lend l _ _ _ _ _ _ (by decide) (by decide) (by decide) (c_lend l I i hi o ho x3 g3 hle L), c_m_lend l _ i hi o ho x3 g3 hle2 _, ?_, fun _ => st_q L ?_, ?_⟩
      · rw [ml_ne (by decide) (by decide)]; exact mw_up_at
      · rw [le_o (by omega) (by omega), ml_o ho, tt_ne (by decide), j49, hac]
      · refine lwR_two (C := lendI I (7 + 11 * i) o (1 - o) x3) (M := mlendI I i o x3) (rel2_of hr (relA_lend hi ho) (by rw [le_ne (by omega) (by omega)]) (by rw [ml_ne (by omega) (by omega)]) (fun i2 hi2 o2 ho2 => le_ne (by omega) (by omega)) (ml_ne (by omega) (by omega))) (fun k hk _ _ => ?_) (fun k h1 h2 => ?_) ?_
        · rw [ml_ne (by omega) (by omega), mw_up_ne (by omega)]
        · exact ml_agree (by rw [mw_up_ne (by omega), j49]) (by rw [mw_up_ne (by omega), j53]) (by rw [mw_up_ne (by omega), le_ne (by omega) (by omega)])
        · rw [ml_ne (by omega) (by omega), mw_up_nj (by omega), le_ne (by omega) (by omega), ml_ne (by omega) (by omega)]
    · have hle2 : ¬ x3 ≤ I 49 (2 * i + o) := by rw [← hac]; exact hle
      exact ⟨2, 0, I, mw_up I 40 19 2, L, 4, by decide, w_lendS l _ _ _ _ _ _ (by decide) (by decide) (by decide) (c_lendS l I i hi o ho x3 g3 hle L), c_m_lendS l I i hi o ho x3 g3 hle2 L, mw_up_at, fun h => absurd h (by decide), lwR_t 2 hr⟩
  · exact ⟨1, 0, I, mw_up I 40 19 1, L, 4, by decide, w_lendX l _ _ _ _ _ _ (by decide) (by decide) (by decide) (c_lendX l x1 x2 x3 hq I L), c_m_lendX l x1 x2 x3 hq I L, mw_up_at, fun h => absurd h (by decide), lwR_t 1 hr⟩
